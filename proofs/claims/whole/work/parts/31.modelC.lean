/-! THE MODEL: blocks, what may be thrown, the public methods -/
def KCn (G : Nat → Int32) (f t i : Nat) : Nat → Int32 := fun q => if 140 * t ≤ q ∧ q < 140 * t + i then G (q - 140 * t + 140 * f) else G q
def KC (G : Nat → Int32) (f t : Nat) : Nat → Int32 := fun q => if 140 * t ≤ q ∧ q < 140 * t + 140 then G (q - 140 * t + 140 * f) else G q
theorem KCn_0 (G : Nat → Int32) (f t : Nat) : KCn G f t 0 = G := funext fun q => if_neg (by omega)
theorem KCn_S {G : Nat → Int32} {f t i : Nat} (hft : f ≠ t) (hi : i < 140) : u1 (KCn G f t i) (140 * t + i) (KCn G f t i (140 * f + i)) = KCn G f t (i + 1) := by
  have e : KCn G f t i (140 * f + i) = G (140 * f + i) := if_neg (by omega)
  rw [e]
  funext q
  rw [u1_at]
  unfold KCn
  by_cases h : q = 140 * t + i
  · rw [if_pos h, if_pos (by omega), h, show 140 * t + i - 140 * t + 140 * f = 140 * f + i by omega]
  · rw [if_neg h]
    by_cases h2 : 140 * t ≤ q ∧ q < 140 * t + i
    · rw [if_pos h2, if_pos (by omega)]
    · rw [if_neg h2, if_neg (by omega)]
theorem enc_out {nw sc q : Nat} {B : Bu} {g : Nat → Int32} (n6 : nw ≤ 6) (s8 : sc ≤ 8) (hq : 140 ≤ q) : enc nw sc B g q = g q := by
  unfold enc
  rw [if_neg (by omega), if_neg (by omega), if_neg (by omega)]
theorem enc_fix {nw sc : Nat} {B : Bu} {g X : Nat → Int32} (n6 : nw ≤ 6) (s8 : sc ≤ 8) (hX : ∀ q, q < 140 → X q = enc nw sc B g q) : enc nw sc B X = X := by
  funext q
  by_cases h : q < 140
  · have e := hX q h
    unfold enc at e ⊢
    by_cases h1 : q < 12
    · rw [if_pos h1] at e ⊢; exact e.symm
    · rw [if_neg h1] at e ⊢
      by_cases h2 : 14 ≤ q ∧ q < 14 + nw
      · rw [if_pos h2] at e ⊢; exact e.symm
      · rw [if_neg h2] at e ⊢
        by_cases h3 : 20 ≤ q ∧ q < 20 + 15 * sc
        · rw [if_pos h3] at e ⊢; exact e.symm
        · rw [if_neg h3]
  · exact enc_out n6 s8 (by omega)
theorem enc_KC {nw sc f t : Nat} {B : Bu} {g : Nat → Int32} (n6 : nw ≤ 6) (s8 : sc ≤ 8) (ht : 1 ≤ t) : enc nw sc B (KC (enc nw sc B g) f t) = KC (enc nw sc B g) f t := enc_fix n6 s8 fun q hq => if_neg (by omega)
theorem trial_end {nw sc : Nat} {B B' : Bu} {g : Nat → Int32} (n6 : nw ≤ 6) (s8 : sc ≤ 8) : KC (enc nw sc B' (KC (enc nw sc B g) 0 12)) 12 0 = enc nw sc B (KC (enc nw sc B g) 0 12) := by
  rw [enc_KC (t := 12) n6 s8 (by omega)]
  funext q
  by_cases h : q < 140
  · have e1 : KC (enc nw sc B' (KC (enc nw sc B g) 0 12)) 12 0 q = enc nw sc B' (KC (enc nw sc B g) 0 12) (q - 140 * 0 + 140 * 12) := if_pos (by omega)
    have e2 : KC (enc nw sc B g) 0 12 (q - 140 * 0 + 140 * 12) = enc nw sc B g (q - 140 * 0 + 140 * 12 - 140 * 12 + 140 * 0) := if_pos (by omega)
    have e3 : KC (enc nw sc B g) 0 12 q = enc nw sc B g q := if_neg (by omega)
    rw [e1, enc_out n6 s8 (by omega), e2, e3, show q - 140 * 0 + 140 * 12 - 140 * 12 + 140 * 0 = q by omega]
  · have e1 : KC (enc nw sc B' (KC (enc nw sc B g) 0 12)) 12 0 q = enc nw sc B' (KC (enc nw sc B g) 0 12) q := if_neg (by omega)
    rw [e1, enc_out n6 s8 (by omega)]
def kpC (c : Nat → Int32) (old kept : Nat) : Nat → Int32 := if kept = 8 then u1 c 1 (nI ((old + 1) % 8)) else u1 c 2 (nI (kept + 1))
theorem kp_t {a k : Nat} (h : 1 ≤ a + k) (h2 : a + k < 1000) : (1 : Int32) + (nI a + nI k - 1 - (nI a + nI k - 1) / 8 * 8) = nI (1 + (a + k - 1) % 8) := by
  obtain ⟨n, hn⟩ : ∃ n, a + k = n + 1 := ⟨a + k - 1, by omega⟩
  have e : nI a + nI k - 1 = nI n := by rw [nI_add, hn]; exact nI_pred n
  rw [e, hn]
  have e2 : nI n - nI n / 8 * 8 = nI (n % 8) := nI_rem (b := 8) (by omega) (by omega) (by omega)
  rw [e2]
  exact nI_add 1 _
theorem kp_u {a k : Nat} (h2 : a + k < 1000) : (1 : Int32) + (nI a + nI k - (nI a + nI k) / 8 * 8) = nI (1 + (a + k) % 8) := by
  rw [nI_add]
  have e2 : nI (a + k) - nI (a + k) / 8 * 8 = nI ((a + k) % 8) := nI_rem (b := 8) (by omega) (by omega) (by omega)
  rw [e2]
  exact nI_add 1 _
theorem nI_m1 {n : Nat} (h : 0 < n) : nI n - 1 = nI (n - 1) := by
  obtain ⟨k, rfl⟩ : ∃ k, n = k + 1 := ⟨n - 1, by omega⟩
  exact nI_pred k
theorem arg_dec {sc : Nat} (s8 : sc ≤ 1000) (v : Int32) : (∃ i, i < sc ∧ v = nI i) ∨ (v < 0 ∨ nI sc ≤ v) := by
  by_cases h : v < 0
  · exact Or.inr (Or.inl h)
  · obtain ⟨j, hj, rfl⟩ := nI_of h
    by_cases h2 : j < sc
    · exact Or.inl ⟨j, h2, rfl⟩
    · exact Or.inr (Or.inr ((nI_leI (by omega) hj).mpr (by omega)))
theorem arg_no {sc : Nat} (h0 : 0 < sc) (s8 : sc ≤ 1000) {v : Int32} (h : v < 0 ∨ nI sc ≤ v) : v < 0 ∨ nI sc - 1 < v := by
  rcases h with h | h
  · exact Or.inl h
  · refine Or.inr ?_
    rw [nI_m1 h0, i_lt, nI_toInt (by omega)]
    rw [i_le, nI_toInt (by omega)] at h
    omega
theorem arg_ok {i sc : Nat} (h : i < sc) (s8 : sc ≤ 1000) : (0 : Int32) ≤ nI i ∧ nI i ≤ nI sc - 1 := by
  rw [nI_m1 (by omega)]
  exact ⟨nI_pos' (by omega), (nI_leI (by omega) (by omega)).mpr (by omega)⟩
/-! loops of questions -/
def Q_false (c w : Nat → Int32) (nw : Nat) : Nat → Nat → (Nat → Int32) → Int32
  | 0, _, _ => -1
  | n + 1, d, s => if M_tot c w s nw = 0 then Q_false c w nw n (d + 1) (M_drift s) else nI d
def Q_closed (nw sc ni i : Nat) : Nat → Nat → Bu → Int32
  | 0, _, _ => -1
  | n + 1, d, B => if B.2.2 i 12 = 0 then nI d else Q_closed nw sc ni i n (d + 1) (P_day nw sc ni (0, B)).2
def Q_purse (B : Bu) (nw sc ni i days : Nat) : Int32 := (P_pass nw sc ni days (0, B)).2.2.2 i 0
def Q_thumb (B : Bu) (i : Nat) (th : Int32) : Bu := sS B i (u1 (B.2.2 i) 6 th)
/-- the best thumb among the first n of 0, 5, 10 .. -/
def Q_best (B : Bu) (nw sc ni i days : Nat) : Nat → Int32 × Int32
  | 0 => (0, -2000000000)
  | n + 1 => if Q_purse (Q_thumb B i (nI (5 * n))) nw sc ni i days ≤ (Q_best B nw sc ni i days n).2 then Q_best B nw sc ni i days n else (nI (5 * n), Q_purse (Q_thumb B i (nI (5 * n))) nw sc ni i days)
def Q_fined (s : Nat → Nat → Int32) : Nat → Nat
  | 0 => 0
  | n + 1 => if s (n + 1) 13 ≤ s (Q_fined s n) 13 then Q_fined s n else n + 1
theorem Q_fined_le (s : Nat → Nat → Int32) : ∀ n, Q_fined s n ≤ n
  | 0 => Nat.le_refl _
  | n + 1 => by
    rw [Q_fined]
    split
    · exact Nat.le_succ_of_le (Q_fined_le s n)
    · exact Nat.le_refl _
def Q_exp (s : Nat → Nat → Int32) (d0 d1 : Int32) : Nat → Nat
  | 0 => 0
  | n + 1 => if d0 ≤ s n 11 ∧ s n 11 < d1 then Q_exp s d0 d1 n + 1 else Q_exp s d0 d1 n
def Q_rank (s : Nat → Nat → Int32) (sc : Nat) (r : Int32) : Nat → Int32
  | 0 => -1
  | d + 1 => if nI (P_rank s (sc - (d + 1)) sc) = r then nI (sc - (d + 1)) else Q_rank s sc r d
def Q_coin (a : Int32) (s : Nat → Nat → Int32) : Nat → Int32
  | 0 => a
  | n + 1 => Q_coin a s n + (s n 14 - s n 0)
def Q_sum (c w : Nat → Int32) (s : Nat → Nat → Int32) (nw : Nat) : Nat → Int32
  | 0 => 0
  | n + 1 => Q_sum c w s nw n + M_tot c w (s n) nw
def Q_true (c w : Nat → Int32) (s : Nat → Nat → Int32) (nw : Nat) : Nat → Nat
  | 0 => 0
  | n + 1 => if M_tot c w (s n) nw = 0 then Q_true c w s nw n + 1 else Q_true c w s nw n
theorem d_MO_thrown_0 : decode (mC m_MO_thrown) 0 = .ok (.aload_n 0, 1) := by decide +kernel
theorem d_MO_thrown_1 : decode (mC m_MO_thrown) 1 = .ok (.getfield 52, 3) := by decide +kernel
theorem d_MO_thrown_4 : decode (mC m_MO_thrown) 4 = .ok (.ireturn, 1) := by decide +kernel
theorem d_MO_throwsIf_0 : decode (mC m_MO_throwsIf) 0 = .ok (.iload_n 1, 1) := by decide +kernel
theorem d_MO_throwsIf_1 : decode (mC m_MO_throwsIf) 1 = .ok (.ifCond .eq 8, 3) := by decide +kernel
theorem d_MO_throwsIf_4 : decode (mC m_MO_throwsIf) 4 = .ok (.aload_n 0, 1) := by decide +kernel
theorem d_MO_throwsIf_5 : decode (mC m_MO_throwsIf) 5 = .ok (.iload_n 2, 1) := by decide +kernel
theorem d_MO_throwsIf_6 : decode (mC m_MO_throwsIf) 6 = .ok (.putfield 52, 3) := by decide +kernel
theorem d_MO_throwsIf_9 : decode (mC m_MO_throwsIf) 9 = .ok (.iload_n 1, 1) := by decide +kernel
theorem d_MO_throwsIf_10 : decode (mC m_MO_throwsIf) 10 = .ok (.ireturn, 1) := by decide +kernel
theorem d_MO_in_0 : decode (mC m_MO_in) 0 = .ok (.iload_n 0, 1) := by decide +kernel
theorem d_MO_in_1 : decode (mC m_MO_in) 1 = .ok (.iload_n 1, 1) := by decide +kernel
theorem d_MO_in_2 : decode (mC m_MO_in) 2 = .ok (.if_icmp .lt 12, 3) := by decide +kernel
theorem d_MO_in_5 : decode (mC m_MO_in) 5 = .ok (.iload_n 0, 1) := by decide +kernel
theorem d_MO_in_6 : decode (mC m_MO_in) 6 = .ok (.iload_n 2, 1) := by decide +kernel
theorem d_MO_in_7 : decode (mC m_MO_in) 7 = .ok (.if_icmp .gt 7, 3) := by decide +kernel
theorem d_MO_in_10 : decode (mC m_MO_in) 10 = .ok (.iconst 1, 1) := by decide +kernel
theorem d_MO_in_11 : decode (mC m_MO_in) 11 = .ok (.goto 4, 3) := by decide +kernel
theorem d_MO_in_14 : decode (mC m_MO_in) 14 = .ok (.iconst 0, 1) := by decide +kernel
theorem d_MO_in_15 : decode (mC m_MO_in) 15 = .ok (.ireturn, 1) := by decide +kernel
theorem d_MO_copyBlock_0 : decode (mC m_MO_copyBlock) 0 = .ok (.iconst 0, 1) := by decide +kernel
theorem d_MO_copyBlock_1 : decode (mC m_MO_copyBlock) 1 = .ok (.istore_n 3, 1) := by decide +kernel
theorem d_MO_copyBlock_2 : decode (mC m_MO_copyBlock) 2 = .ok (.iload_n 3, 1) := by decide +kernel
theorem d_MO_copyBlock_3 : decode (mC m_MO_copyBlock) 3 = .ok (.sipush 140, 3) := by decide +kernel
theorem d_MO_copyBlock_6 : decode (mC m_MO_copyBlock) 6 = .ok (.if_icmp .ge 33, 3) := by decide +kernel
theorem d_MO_copyBlock_9 : decode (mC m_MO_copyBlock) 9 = .ok (.aload_n 0, 1) := by decide +kernel
theorem d_MO_copyBlock_10 : decode (mC m_MO_copyBlock) 10 = .ok (.getfield 7, 3) := by decide +kernel
theorem d_MO_copyBlock_13 : decode (mC m_MO_copyBlock) 13 = .ok (.sipush 140, 3) := by decide +kernel
theorem d_MO_copyBlock_16 : decode (mC m_MO_copyBlock) 16 = .ok (.iload_n 2, 1) := by decide +kernel
theorem d_MO_copyBlock_17 : decode (mC m_MO_copyBlock) 17 = .ok (.imul, 1) := by decide +kernel
theorem d_MO_copyBlock_18 : decode (mC m_MO_copyBlock) 18 = .ok (.iload_n 3, 1) := by decide +kernel
theorem d_MO_copyBlock_19 : decode (mC m_MO_copyBlock) 19 = .ok (.iadd, 1) := by decide +kernel
theorem d_MO_copyBlock_20 : decode (mC m_MO_copyBlock) 20 = .ok (.aload_n 0, 1) := by decide +kernel
theorem d_MO_copyBlock_21 : decode (mC m_MO_copyBlock) 21 = .ok (.getfield 7, 3) := by decide +kernel
theorem d_MO_copyBlock_24 : decode (mC m_MO_copyBlock) 24 = .ok (.sipush 140, 3) := by decide +kernel
theorem d_MO_copyBlock_27 : decode (mC m_MO_copyBlock) 27 = .ok (.iload_n 1, 1) := by decide +kernel
theorem d_MO_copyBlock_28 : decode (mC m_MO_copyBlock) 28 = .ok (.imul, 1) := by decide +kernel
theorem d_MO_copyBlock_29 : decode (mC m_MO_copyBlock) 29 = .ok (.iload_n 3, 1) := by decide +kernel
theorem d_MO_copyBlock_30 : decode (mC m_MO_copyBlock) 30 = .ok (.iadd, 1) := by decide +kernel
theorem d_MO_copyBlock_31 : decode (mC m_MO_copyBlock) 31 = .ok (.iaload, 1) := by decide +kernel
theorem d_MO_copyBlock_32 : decode (mC m_MO_copyBlock) 32 = .ok (.iastore, 1) := by decide +kernel
theorem d_MO_copyBlock_33 : decode (mC m_MO_copyBlock) 33 = .ok (.iinc 3 1, 3) := by decide +kernel
theorem d_MO_copyBlock_36 : decode (mC m_MO_copyBlock) 36 = .ok (.goto (-34), 3) := by decide +kernel
theorem d_MO_copyBlock_39 : decode (mC m_MO_copyBlock) 39 = .ok (.return_, 1) := by decide +kernel
theorem d_MO_keep_0 : decode (mC m_MO_keep) 0 = .ok (.aload_n 0, 1) := by decide +kernel
theorem d_MO_keep_1 : decode (mC m_MO_keep) 1 = .ok (.getfield 55, 3) := by decide +kernel
theorem d_MO_keep_4 : decode (mC m_MO_keep) 4 = .ok (.bipush 8, 2) := by decide +kernel
theorem d_MO_keep_6 : decode (mC m_MO_keep) 6 = .ok (.if_icmp .ne 19, 3) := by decide +kernel
theorem d_MO_keep_9 : decode (mC m_MO_keep) 9 = .ok (.aload_n 0, 1) := by decide +kernel
theorem d_MO_keep_10 : decode (mC m_MO_keep) 10 = .ok (.aload_n 0, 1) := by decide +kernel
theorem d_MO_keep_11 : decode (mC m_MO_keep) 11 = .ok (.getfield 58, 3) := by decide +kernel
theorem d_MO_keep_14 : decode (mC m_MO_keep) 14 = .ok (.iconst 1, 1) := by decide +kernel
theorem d_MO_keep_15 : decode (mC m_MO_keep) 15 = .ok (.iadd, 1) := by decide +kernel
theorem d_MO_keep_16 : decode (mC m_MO_keep) 16 = .ok (.bipush 8, 2) := by decide +kernel
theorem d_MO_keep_18 : decode (mC m_MO_keep) 18 = .ok (.irem, 1) := by decide +kernel
theorem d_MO_keep_19 : decode (mC m_MO_keep) 19 = .ok (.putfield 58, 3) := by decide +kernel
theorem d_MO_keep_22 : decode (mC m_MO_keep) 22 = .ok (.goto 13, 3) := by decide +kernel
theorem d_MO_keep_25 : decode (mC m_MO_keep) 25 = .ok (.aload_n 0, 1) := by decide +kernel
theorem d_MO_keep_26 : decode (mC m_MO_keep) 26 = .ok (.dup, 1) := by decide +kernel
theorem d_MO_keep_27 : decode (mC m_MO_keep) 27 = .ok (.getfield 55, 3) := by decide +kernel
theorem d_MO_keep_30 : decode (mC m_MO_keep) 30 = .ok (.iconst 1, 1) := by decide +kernel
theorem d_MO_keep_31 : decode (mC m_MO_keep) 31 = .ok (.iadd, 1) := by decide +kernel
theorem d_MO_keep_32 : decode (mC m_MO_keep) 32 = .ok (.putfield 55, 3) := by decide +kernel
theorem d_MO_keep_35 : decode (mC m_MO_keep) 35 = .ok (.aload_n 0, 1) := by decide +kernel
theorem d_MO_keep_36 : decode (mC m_MO_keep) 36 = .ok (.iload_n 1, 1) := by decide +kernel
theorem d_MO_keep_37 : decode (mC m_MO_keep) 37 = .ok (.iconst 1, 1) := by decide +kernel
theorem d_MO_keep_38 : decode (mC m_MO_keep) 38 = .ok (.aload_n 0, 1) := by decide +kernel
theorem d_MO_keep_39 : decode (mC m_MO_keep) 39 = .ok (.getfield 58, 3) := by decide +kernel
theorem d_MO_keep_42 : decode (mC m_MO_keep) 42 = .ok (.aload_n 0, 1) := by decide +kernel
theorem d_MO_keep_43 : decode (mC m_MO_keep) 43 = .ok (.getfield 55, 3) := by decide +kernel
theorem d_MO_keep_46 : decode (mC m_MO_keep) 46 = .ok (.iadd, 1) := by decide +kernel
theorem d_MO_keep_47 : decode (mC m_MO_keep) 47 = .ok (.iconst 1, 1) := by decide +kernel
theorem d_MO_keep_48 : decode (mC m_MO_keep) 48 = .ok (.isub, 1) := by decide +kernel
theorem d_MO_keep_49 : decode (mC m_MO_keep) 49 = .ok (.bipush 8, 2) := by decide +kernel
theorem d_MO_keep_51 : decode (mC m_MO_keep) 51 = .ok (.irem, 1) := by decide +kernel
theorem d_MO_keep_52 : decode (mC m_MO_keep) 52 = .ok (.iadd, 1) := by decide +kernel
theorem d_MO_keep_53 : decode (mC m_MO_keep) 53 = .ok (.invokevirtual 61, 3) := by decide +kernel
theorem d_MO_keep_56 : decode (mC m_MO_keep) 56 = .ok (.return_, 1) := by decide +kernel
theorem d_MO_change_0 : decode (mC m_MO_change) 0 = .ok (.aload_n 0, 1) := by decide +kernel
theorem d_MO_change_1 : decode (mC m_MO_change) 1 = .ok (.iconst 0, 1) := by decide +kernel
theorem d_MO_change_2 : decode (mC m_MO_change) 2 = .ok (.invokevirtual 239, 3) := by decide +kernel
theorem d_MO_change_5 : decode (mC m_MO_change) 5 = .ok (.aload_n 0, 1) := by decide +kernel
theorem d_MO_change_6 : decode (mC m_MO_change) 6 = .ok (.getfield 7, 3) := by decide +kernel
theorem d_MO_change_9 : decode (mC m_MO_change) 9 = .ok (.iload_n 1, 1) := by decide +kernel
theorem d_MO_change_10 : decode (mC m_MO_change) 10 = .ok (.iaload, 1) := by decide +kernel
theorem d_MO_change_11 : decode (mC m_MO_change) 11 = .ok (.istore_n 3, 1) := by decide +kernel
theorem d_MO_change_12 : decode (mC m_MO_change) 12 = .ok (.aload_n 0, 1) := by decide +kernel
theorem d_MO_change_13 : decode (mC m_MO_change) 13 = .ok (.getfield 7, 3) := by decide +kernel
theorem d_MO_change_16 : decode (mC m_MO_change) 16 = .ok (.iload_n 1, 1) := by decide +kernel
theorem d_MO_change_17 : decode (mC m_MO_change) 17 = .ok (.iload_n 2, 1) := by decide +kernel
theorem d_MO_change_18 : decode (mC m_MO_change) 18 = .ok (.iastore, 1) := by decide +kernel
theorem d_MO_change_19 : decode (mC m_MO_change) 19 = .ok (.iload_n 3, 1) := by decide +kernel
theorem d_MO_change_20 : decode (mC m_MO_change) 20 = .ok (.ireturn, 1) := by decide +kernel
theorem d_MO_undo_0 : decode (mC m_MO_undo) 0 = .ok (.aload_n 0, 1) := by decide +kernel
theorem d_MO_undo_1 : decode (mC m_MO_undo) 1 = .ok (.iconst 0, 1) := by decide +kernel
theorem d_MO_undo_2 : decode (mC m_MO_undo) 2 = .ok (.putfield 52, 3) := by decide +kernel
theorem d_MO_undo_5 : decode (mC m_MO_undo) 5 = .ok (.aload_n 0, 1) := by decide +kernel
theorem d_MO_undo_6 : decode (mC m_MO_undo) 6 = .ok (.aload_n 0, 1) := by decide +kernel
theorem d_MO_undo_7 : decode (mC m_MO_undo) 7 = .ok (.getfield 55, 3) := by decide +kernel
theorem d_MO_undo_10 : decode (mC m_MO_undo) 10 = .ok (.ifCond .ne 7, 3) := by decide +kernel
theorem d_MO_undo_13 : decode (mC m_MO_undo) 13 = .ok (.iconst 1, 1) := by decide +kernel
theorem d_MO_undo_14 : decode (mC m_MO_undo) 14 = .ok (.goto 4, 3) := by decide +kernel
theorem d_MO_undo_17 : decode (mC m_MO_undo) 17 = .ok (.iconst 0, 1) := by decide +kernel
theorem d_MO_undo_18 : decode (mC m_MO_undo) 18 = .ok (.iconst 1, 1) := by decide +kernel
theorem d_MO_undo_19 : decode (mC m_MO_undo) 19 = .ok (.invokevirtual 154, 3) := by decide +kernel
theorem d_MO_undo_22 : decode (mC m_MO_undo) 22 = .ok (.ifCond .eq 5, 3) := by decide +kernel
theorem d_MO_undo_25 : decode (mC m_MO_undo) 25 = .ok (.iconst 0, 1) := by decide +kernel
theorem d_MO_undo_26 : decode (mC m_MO_undo) 26 = .ok (.ireturn, 1) := by decide +kernel
theorem d_MO_undo_27 : decode (mC m_MO_undo) 27 = .ok (.aload_n 0, 1) := by decide +kernel
theorem d_MO_undo_28 : decode (mC m_MO_undo) 28 = .ok (.dup, 1) := by decide +kernel
theorem d_MO_undo_29 : decode (mC m_MO_undo) 29 = .ok (.getfield 55, 3) := by decide +kernel
theorem d_MO_undo_32 : decode (mC m_MO_undo) 32 = .ok (.iconst 1, 1) := by decide +kernel
theorem d_MO_undo_33 : decode (mC m_MO_undo) 33 = .ok (.isub, 1) := by decide +kernel
theorem d_MO_undo_34 : decode (mC m_MO_undo) 34 = .ok (.putfield 55, 3) := by decide +kernel
theorem d_MO_undo_37 : decode (mC m_MO_undo) 37 = .ok (.aload_n 0, 1) := by decide +kernel
theorem d_MO_undo_38 : decode (mC m_MO_undo) 38 = .ok (.iconst 1, 1) := by decide +kernel
theorem d_MO_undo_39 : decode (mC m_MO_undo) 39 = .ok (.aload_n 0, 1) := by decide +kernel
theorem d_MO_undo_40 : decode (mC m_MO_undo) 40 = .ok (.getfield 58, 3) := by decide +kernel
theorem d_MO_undo_43 : decode (mC m_MO_undo) 43 = .ok (.aload_n 0, 1) := by decide +kernel
theorem d_MO_undo_44 : decode (mC m_MO_undo) 44 = .ok (.getfield 55, 3) := by decide +kernel
theorem d_MO_undo_47 : decode (mC m_MO_undo) 47 = .ok (.iadd, 1) := by decide +kernel
theorem d_MO_undo_48 : decode (mC m_MO_undo) 48 = .ok (.bipush 8, 2) := by decide +kernel
theorem d_MO_undo_50 : decode (mC m_MO_undo) 50 = .ok (.irem, 1) := by decide +kernel
theorem d_MO_undo_51 : decode (mC m_MO_undo) 51 = .ok (.iadd, 1) := by decide +kernel
theorem d_MO_undo_52 : decode (mC m_MO_undo) 52 = .ok (.iconst 0, 1) := by decide +kernel
theorem d_MO_undo_53 : decode (mC m_MO_undo) 53 = .ok (.invokevirtual 61, 3) := by decide +kernel
theorem d_MO_undo_56 : decode (mC m_MO_undo) 56 = .ok (.aload_n 0, 1) := by decide +kernel
theorem d_MO_undo_57 : decode (mC m_MO_undo) 57 = .ok (.getfield 55, 3) := by decide +kernel
theorem d_MO_undo_60 : decode (mC m_MO_undo) 60 = .ok (.ireturn, 1) := by decide +kernel
theorem d_MO_saveSnapshot_0 : decode (mC m_MO_saveSnapshot) 0 = .ok (.aload_n 0, 1) := by decide +kernel
theorem d_MO_saveSnapshot_1 : decode (mC m_MO_saveSnapshot) 1 = .ok (.iconst 0, 1) := by decide +kernel
theorem d_MO_saveSnapshot_2 : decode (mC m_MO_saveSnapshot) 2 = .ok (.putfield 52, 3) := by decide +kernel
theorem d_MO_saveSnapshot_5 : decode (mC m_MO_saveSnapshot) 5 = .ok (.aload_n 0, 1) := by decide +kernel
theorem d_MO_saveSnapshot_6 : decode (mC m_MO_saveSnapshot) 6 = .ok (.iload_n 1, 1) := by decide +kernel
theorem d_MO_saveSnapshot_7 : decode (mC m_MO_saveSnapshot) 7 = .ok (.iconst 0, 1) := by decide +kernel
theorem d_MO_saveSnapshot_8 : decode (mC m_MO_saveSnapshot) 8 = .ok (.iconst 1, 1) := by decide +kernel
theorem d_MO_saveSnapshot_9 : decode (mC m_MO_saveSnapshot) 9 = .ok (.invokestatic 161, 3) := by decide +kernel
theorem d_MO_saveSnapshot_12 : decode (mC m_MO_saveSnapshot) 12 = .ok (.ifCond .ne 7, 3) := by decide +kernel
theorem d_MO_saveSnapshot_15 : decode (mC m_MO_saveSnapshot) 15 = .ok (.iconst 1, 1) := by decide +kernel
theorem d_MO_saveSnapshot_16 : decode (mC m_MO_saveSnapshot) 16 = .ok (.goto 4, 3) := by decide +kernel
theorem d_MO_saveSnapshot_19 : decode (mC m_MO_saveSnapshot) 19 = .ok (.iconst 0, 1) := by decide +kernel
theorem d_MO_saveSnapshot_20 : decode (mC m_MO_saveSnapshot) 20 = .ok (.iconst 1, 1) := by decide +kernel
theorem d_MO_saveSnapshot_21 : decode (mC m_MO_saveSnapshot) 21 = .ok (.invokevirtual 154, 3) := by decide +kernel
theorem d_MO_saveSnapshot_24 : decode (mC m_MO_saveSnapshot) 24 = .ok (.ifCond .eq 4, 3) := by decide +kernel
theorem d_MO_saveSnapshot_27 : decode (mC m_MO_saveSnapshot) 27 = .ok (.return_, 1) := by decide +kernel
theorem d_MO_saveSnapshot_28 : decode (mC m_MO_saveSnapshot) 28 = .ok (.aload_n 0, 1) := by decide +kernel
theorem d_MO_saveSnapshot_29 : decode (mC m_MO_saveSnapshot) 29 = .ok (.iconst 0, 1) := by decide +kernel
theorem d_MO_saveSnapshot_30 : decode (mC m_MO_saveSnapshot) 30 = .ok (.bipush 9, 2) := by decide +kernel
theorem d_MO_saveSnapshot_32 : decode (mC m_MO_saveSnapshot) 32 = .ok (.iload_n 1, 1) := by decide +kernel
theorem d_MO_saveSnapshot_33 : decode (mC m_MO_saveSnapshot) 33 = .ok (.iadd, 1) := by decide +kernel
theorem d_MO_saveSnapshot_34 : decode (mC m_MO_saveSnapshot) 34 = .ok (.invokevirtual 61, 3) := by decide +kernel
theorem d_MO_saveSnapshot_37 : decode (mC m_MO_saveSnapshot) 37 = .ok (.aload_n 0, 1) := by decide +kernel
theorem d_MO_saveSnapshot_38 : decode (mC m_MO_saveSnapshot) 38 = .ok (.getfield 13, 3) := by decide +kernel
theorem d_MO_saveSnapshot_41 : decode (mC m_MO_saveSnapshot) 41 = .ok (.iload_n 1, 1) := by decide +kernel
theorem d_MO_saveSnapshot_42 : decode (mC m_MO_saveSnapshot) 42 = .ok (.iconst 1, 1) := by decide +kernel
theorem d_MO_saveSnapshot_43 : decode (mC m_MO_saveSnapshot) 43 = .ok (.bastore, 1) := by decide +kernel
theorem d_MO_saveSnapshot_44 : decode (mC m_MO_saveSnapshot) 44 = .ok (.return_, 1) := by decide +kernel
theorem d_MO_restoreSnapshot_0 : decode (mC m_MO_restoreSnapshot) 0 = .ok (.aload_n 0, 1) := by decide +kernel
theorem d_MO_restoreSnapshot_1 : decode (mC m_MO_restoreSnapshot) 1 = .ok (.iconst 0, 1) := by decide +kernel
theorem d_MO_restoreSnapshot_2 : decode (mC m_MO_restoreSnapshot) 2 = .ok (.putfield 52, 3) := by decide +kernel
theorem d_MO_restoreSnapshot_5 : decode (mC m_MO_restoreSnapshot) 5 = .ok (.aload_n 0, 1) := by decide +kernel
theorem d_MO_restoreSnapshot_6 : decode (mC m_MO_restoreSnapshot) 6 = .ok (.iload_n 1, 1) := by decide +kernel
theorem d_MO_restoreSnapshot_7 : decode (mC m_MO_restoreSnapshot) 7 = .ok (.iconst 0, 1) := by decide +kernel
theorem d_MO_restoreSnapshot_8 : decode (mC m_MO_restoreSnapshot) 8 = .ok (.iconst 1, 1) := by decide +kernel
theorem d_MO_restoreSnapshot_9 : decode (mC m_MO_restoreSnapshot) 9 = .ok (.invokestatic 161, 3) := by decide +kernel
theorem d_MO_restoreSnapshot_12 : decode (mC m_MO_restoreSnapshot) 12 = .ok (.ifCond .ne 7, 3) := by decide +kernel
theorem d_MO_restoreSnapshot_15 : decode (mC m_MO_restoreSnapshot) 15 = .ok (.iconst 1, 1) := by decide +kernel
theorem d_MO_restoreSnapshot_16 : decode (mC m_MO_restoreSnapshot) 16 = .ok (.goto 4, 3) := by decide +kernel
theorem d_MO_restoreSnapshot_19 : decode (mC m_MO_restoreSnapshot) 19 = .ok (.iconst 0, 1) := by decide +kernel
theorem d_MO_restoreSnapshot_20 : decode (mC m_MO_restoreSnapshot) 20 = .ok (.iconst 1, 1) := by decide +kernel
theorem d_MO_restoreSnapshot_21 : decode (mC m_MO_restoreSnapshot) 21 = .ok (.invokevirtual 154, 3) := by decide +kernel
theorem d_MO_restoreSnapshot_24 : decode (mC m_MO_restoreSnapshot) 24 = .ok (.ifCond .eq 5, 3) := by decide +kernel
theorem d_MO_restoreSnapshot_27 : decode (mC m_MO_restoreSnapshot) 27 = .ok (.iconst 0, 1) := by decide +kernel
theorem d_MO_restoreSnapshot_28 : decode (mC m_MO_restoreSnapshot) 28 = .ok (.ireturn, 1) := by decide +kernel
theorem d_MO_restoreSnapshot_29 : decode (mC m_MO_restoreSnapshot) 29 = .ok (.aload_n 0, 1) := by decide +kernel
theorem d_MO_restoreSnapshot_30 : decode (mC m_MO_restoreSnapshot) 30 = .ok (.aload_n 0, 1) := by decide +kernel
theorem d_MO_restoreSnapshot_31 : decode (mC m_MO_restoreSnapshot) 31 = .ok (.getfield 13, 3) := by decide +kernel
theorem d_MO_restoreSnapshot_34 : decode (mC m_MO_restoreSnapshot) 34 = .ok (.iload_n 1, 1) := by decide +kernel
theorem d_MO_restoreSnapshot_35 : decode (mC m_MO_restoreSnapshot) 35 = .ok (.baload, 1) := by decide +kernel
theorem d_MO_restoreSnapshot_36 : decode (mC m_MO_restoreSnapshot) 36 = .ok (.ifCond .ne 7, 3) := by decide +kernel
theorem d_MO_restoreSnapshot_39 : decode (mC m_MO_restoreSnapshot) 39 = .ok (.iconst 1, 1) := by decide +kernel
theorem d_MO_restoreSnapshot_40 : decode (mC m_MO_restoreSnapshot) 40 = .ok (.goto 4, 3) := by decide +kernel
theorem d_MO_restoreSnapshot_43 : decode (mC m_MO_restoreSnapshot) 43 = .ok (.iconst 0, 1) := by decide +kernel
theorem d_MO_restoreSnapshot_44 : decode (mC m_MO_restoreSnapshot) 44 = .ok (.iconst 2, 1) := by decide +kernel
theorem d_MO_restoreSnapshot_45 : decode (mC m_MO_restoreSnapshot) 45 = .ok (.invokevirtual 154, 3) := by decide +kernel
theorem d_MO_restoreSnapshot_48 : decode (mC m_MO_restoreSnapshot) 48 = .ok (.ifCond .eq 5, 3) := by decide +kernel
theorem d_MO_restoreSnapshot_51 : decode (mC m_MO_restoreSnapshot) 51 = .ok (.iconst 0, 1) := by decide +kernel
theorem d_MO_restoreSnapshot_52 : decode (mC m_MO_restoreSnapshot) 52 = .ok (.ireturn, 1) := by decide +kernel
theorem d_MO_restoreSnapshot_53 : decode (mC m_MO_restoreSnapshot) 53 = .ok (.aload_n 0, 1) := by decide +kernel
theorem d_MO_restoreSnapshot_54 : decode (mC m_MO_restoreSnapshot) 54 = .ok (.iconst 0, 1) := by decide +kernel
theorem d_MO_restoreSnapshot_55 : decode (mC m_MO_restoreSnapshot) 55 = .ok (.invokevirtual 239, 3) := by decide +kernel
theorem d_MO_restoreSnapshot_58 : decode (mC m_MO_restoreSnapshot) 58 = .ok (.aload_n 0, 1) := by decide +kernel
theorem d_MO_restoreSnapshot_59 : decode (mC m_MO_restoreSnapshot) 59 = .ok (.bipush 9, 2) := by decide +kernel
theorem d_MO_restoreSnapshot_61 : decode (mC m_MO_restoreSnapshot) 61 = .ok (.iload_n 1, 1) := by decide +kernel
theorem d_MO_restoreSnapshot_62 : decode (mC m_MO_restoreSnapshot) 62 = .ok (.iadd, 1) := by decide +kernel
theorem d_MO_restoreSnapshot_63 : decode (mC m_MO_restoreSnapshot) 63 = .ok (.iconst 0, 1) := by decide +kernel
theorem d_MO_restoreSnapshot_64 : decode (mC m_MO_restoreSnapshot) 64 = .ok (.invokevirtual 61, 3) := by decide +kernel
theorem d_MO_restoreSnapshot_67 : decode (mC m_MO_restoreSnapshot) 67 = .ok (.aload_n 0, 1) := by decide +kernel
theorem d_MO_restoreSnapshot_68 : decode (mC m_MO_restoreSnapshot) 68 = .ok (.getfield 7, 3) := by decide +kernel
theorem d_MO_restoreSnapshot_71 : decode (mC m_MO_restoreSnapshot) 71 = .ok (.bipush 9, 2) := by decide +kernel
theorem d_MO_restoreSnapshot_73 : decode (mC m_MO_restoreSnapshot) 73 = .ok (.iaload, 1) := by decide +kernel
theorem d_MO_restoreSnapshot_74 : decode (mC m_MO_restoreSnapshot) 74 = .ok (.ireturn, 1) := by decide +kernel
theorem d_MO_lacksShop_0 : decode (mC m_MO_lacksShop) 0 = .ok (.aload_n 0, 1) := by decide +kernel
theorem d_MO_lacksShop_1 : decode (mC m_MO_lacksShop) 1 = .ok (.iconst 0, 1) := by decide +kernel
theorem d_MO_lacksShop_2 : decode (mC m_MO_lacksShop) 2 = .ok (.putfield 52, 3) := by decide +kernel
theorem d_MO_lacksShop_5 : decode (mC m_MO_lacksShop) 5 = .ok (.aload_n 0, 1) := by decide +kernel
theorem d_MO_lacksShop_6 : decode (mC m_MO_lacksShop) 6 = .ok (.iload_n 1, 1) := by decide +kernel
theorem d_MO_lacksShop_7 : decode (mC m_MO_lacksShop) 7 = .ok (.iconst 0, 1) := by decide +kernel
theorem d_MO_lacksShop_8 : decode (mC m_MO_lacksShop) 8 = .ok (.aload_n 0, 1) := by decide +kernel
theorem d_MO_lacksShop_9 : decode (mC m_MO_lacksShop) 9 = .ok (.getfield 7, 3) := by decide +kernel
theorem d_MO_lacksShop_12 : decode (mC m_MO_lacksShop) 12 = .ok (.bipush 8, 2) := by decide +kernel
theorem d_MO_lacksShop_14 : decode (mC m_MO_lacksShop) 14 = .ok (.iaload, 1) := by decide +kernel
theorem d_MO_lacksShop_15 : decode (mC m_MO_lacksShop) 15 = .ok (.iconst 1, 1) := by decide +kernel
theorem d_MO_lacksShop_16 : decode (mC m_MO_lacksShop) 16 = .ok (.isub, 1) := by decide +kernel
theorem d_MO_lacksShop_17 : decode (mC m_MO_lacksShop) 17 = .ok (.invokestatic 161, 3) := by decide +kernel
theorem d_MO_lacksShop_20 : decode (mC m_MO_lacksShop) 20 = .ok (.ifCond .ne 7, 3) := by decide +kernel
theorem d_MO_lacksShop_23 : decode (mC m_MO_lacksShop) 23 = .ok (.iconst 1, 1) := by decide +kernel
theorem d_MO_lacksShop_24 : decode (mC m_MO_lacksShop) 24 = .ok (.goto 4, 3) := by decide +kernel
theorem d_MO_lacksShop_27 : decode (mC m_MO_lacksShop) 27 = .ok (.iconst 0, 1) := by decide +kernel
theorem d_MO_lacksShop_28 : decode (mC m_MO_lacksShop) 28 = .ok (.iconst 1, 1) := by decide +kernel
theorem d_MO_lacksShop_29 : decode (mC m_MO_lacksShop) 29 = .ok (.invokevirtual 154, 3) := by decide +kernel
theorem d_MO_lacksShop_32 : decode (mC m_MO_lacksShop) 32 = .ok (.ireturn, 1) := by decide +kernel
theorem d_MO_lacksGrams_0 : decode (mC m_MO_lacksGrams) 0 = .ok (.aload_n 0, 1) := by decide +kernel
theorem d_MO_lacksGrams_1 : decode (mC m_MO_lacksGrams) 1 = .ok (.iload_n 1, 1) := by decide +kernel
theorem d_MO_lacksGrams_2 : decode (mC m_MO_lacksGrams) 2 = .ok (.invokevirtual 284, 3) := by decide +kernel
theorem d_MO_lacksGrams_5 : decode (mC m_MO_lacksGrams) 5 = .ok (.ifCond .eq 5, 3) := by decide +kernel
theorem d_MO_lacksGrams_8 : decode (mC m_MO_lacksGrams) 8 = .ok (.iconst 1, 1) := by decide +kernel
theorem d_MO_lacksGrams_9 : decode (mC m_MO_lacksGrams) 9 = .ok (.ireturn, 1) := by decide +kernel
theorem d_MO_lacksGrams_10 : decode (mC m_MO_lacksGrams) 10 = .ok (.aload_n 0, 1) := by decide +kernel
theorem d_MO_lacksGrams_11 : decode (mC m_MO_lacksGrams) 11 = .ok (.iload_n 2, 1) := by decide +kernel
theorem d_MO_lacksGrams_12 : decode (mC m_MO_lacksGrams) 12 = .ok (.iconst 1, 1) := by decide +kernel
theorem d_MO_lacksGrams_13 : decode (mC m_MO_lacksGrams) 13 = .ok (.sipush 5000, 3) := by decide +kernel
theorem d_MO_lacksGrams_16 : decode (mC m_MO_lacksGrams) 16 = .ok (.invokestatic 161, 3) := by decide +kernel
theorem d_MO_lacksGrams_19 : decode (mC m_MO_lacksGrams) 19 = .ok (.ifCond .ne 7, 3) := by decide +kernel
theorem d_MO_lacksGrams_22 : decode (mC m_MO_lacksGrams) 22 = .ok (.iconst 1, 1) := by decide +kernel
theorem d_MO_lacksGrams_23 : decode (mC m_MO_lacksGrams) 23 = .ok (.goto 4, 3) := by decide +kernel
theorem d_MO_lacksGrams_26 : decode (mC m_MO_lacksGrams) 26 = .ok (.iconst 0, 1) := by decide +kernel
theorem d_MO_lacksGrams_27 : decode (mC m_MO_lacksGrams) 27 = .ok (.iconst 2, 1) := by decide +kernel
theorem d_MO_lacksGrams_28 : decode (mC m_MO_lacksGrams) 28 = .ok (.invokevirtual 154, 3) := by decide +kernel
theorem d_MO_lacksGrams_31 : decode (mC m_MO_lacksGrams) 31 = .ok (.ireturn, 1) := by decide +kernel
theorem d_MO_endTrial_0 : decode (mC m_MO_endTrial) 0 = .ok (.aload_n 0, 1) := by decide +kernel
theorem d_MO_endTrial_1 : decode (mC m_MO_endTrial) 1 = .ok (.bipush 12, 2) := by decide +kernel
theorem d_MO_endTrial_3 : decode (mC m_MO_endTrial) 3 = .ok (.iconst 0, 1) := by decide +kernel
theorem d_MO_endTrial_4 : decode (mC m_MO_endTrial) 4 = .ok (.invokevirtual 61, 3) := by decide +kernel
theorem d_MO_endTrial_7 : decode (mC m_MO_endTrial) 7 = .ok (.iload_n 1, 1) := by decide +kernel
theorem d_MO_endTrial_8 : decode (mC m_MO_endTrial) 8 = .ok (.ireturn, 1) := by decide +kernel
theorem d_MO_purseBehind_0 : decode (mC m_MO_purseBehind) 0 = .ok (.aload_n 0, 1) := by decide +kernel
theorem d_MO_purseBehind_1 : decode (mC m_MO_purseBehind) 1 = .ok (.iload_n 2, 1) := by decide +kernel
theorem d_MO_purseBehind_2 : decode (mC m_MO_purseBehind) 2 = .ok (.invokevirtual 275, 3) := by decide +kernel
theorem d_MO_purseBehind_5 : decode (mC m_MO_purseBehind) 5 = .ok (.pop, 1) := by decide +kernel
theorem d_MO_purseBehind_6 : decode (mC m_MO_purseBehind) 6 = .ok (.aload_n 0, 1) := by decide +kernel
theorem d_MO_purseBehind_7 : decode (mC m_MO_purseBehind) 7 = .ok (.aload_n 0, 1) := by decide +kernel
theorem d_MO_purseBehind_8 : decode (mC m_MO_purseBehind) 8 = .ok (.iload_n 1, 1) := by decide +kernel
theorem d_MO_purseBehind_9 : decode (mC m_MO_purseBehind) 9 = .ok (.iconst 0, 1) := by decide +kernel
theorem d_MO_purseBehind_10 : decode (mC m_MO_purseBehind) 10 = .ok (.invokevirtual 69, 3) := by decide +kernel
theorem d_MO_purseBehind_13 : decode (mC m_MO_purseBehind) 13 = .ok (.invokevirtual 296, 3) := by decide +kernel
theorem d_MO_purseBehind_16 : decode (mC m_MO_purseBehind) 16 = .ok (.ireturn, 1) := by decide +kernel
theorem d_MO_errorCode_0 : decode (mC m_MO_errorCode) 0 = .ok (.aload_n 0, 1) := by decide +kernel
theorem d_MO_errorCode_1 : decode (mC m_MO_errorCode) 1 = .ok (.iconst 0, 1) := by decide +kernel
theorem d_MO_errorCode_2 : decode (mC m_MO_errorCode) 2 = .ok (.putfield 52, 3) := by decide +kernel
theorem d_MO_errorCode_5 : decode (mC m_MO_errorCode) 5 = .ok (.aload_n 0, 1) := by decide +kernel
theorem d_MO_errorCode_6 : decode (mC m_MO_errorCode) 6 = .ok (.getfield 165, 3) := by decide +kernel
theorem d_MO_errorCode_9 : decode (mC m_MO_errorCode) 9 = .ok (.ireturn, 1) := by decide +kernel
theorem d_MO_errorPosition_0 : decode (mC m_MO_errorPosition) 0 = .ok (.aload_n 0, 1) := by decide +kernel
theorem d_MO_errorPosition_1 : decode (mC m_MO_errorPosition) 1 = .ok (.iconst 0, 1) := by decide +kernel
theorem d_MO_errorPosition_2 : decode (mC m_MO_errorPosition) 2 = .ok (.putfield 52, 3) := by decide +kernel
theorem d_MO_errorPosition_5 : decode (mC m_MO_errorPosition) 5 = .ok (.aload_n 0, 1) := by decide +kernel
theorem d_MO_errorPosition_6 : decode (mC m_MO_errorPosition) 6 = .ok (.getfield 21, 3) := by decide +kernel
theorem d_MO_errorPosition_9 : decode (mC m_MO_errorPosition) 9 = .ok (.ireturn, 1) := by decide +kernel
theorem d_MO_passDays_0 : decode (mC m_MO_passDays) 0 = .ok (.aload_n 0, 1) := by decide +kernel
theorem d_MO_passDays_1 : decode (mC m_MO_passDays) 1 = .ok (.iconst 0, 1) := by decide +kernel
theorem d_MO_passDays_2 : decode (mC m_MO_passDays) 2 = .ok (.putfield 52, 3) := by decide +kernel
theorem d_MO_passDays_5 : decode (mC m_MO_passDays) 5 = .ok (.aload_n 0, 1) := by decide +kernel
theorem d_MO_passDays_6 : decode (mC m_MO_passDays) 6 = .ok (.iload_n 1, 1) := by decide +kernel
theorem d_MO_passDays_7 : decode (mC m_MO_passDays) 7 = .ok (.iconst 1, 1) := by decide +kernel
theorem d_MO_passDays_8 : decode (mC m_MO_passDays) 8 = .ok (.bipush 100, 2) := by decide +kernel
theorem d_MO_passDays_10 : decode (mC m_MO_passDays) 10 = .ok (.invokestatic 161, 3) := by decide +kernel
theorem d_MO_passDays_13 : decode (mC m_MO_passDays) 13 = .ok (.ifCond .ne 7, 3) := by decide +kernel
theorem d_MO_passDays_16 : decode (mC m_MO_passDays) 16 = .ok (.iconst 1, 1) := by decide +kernel
theorem d_MO_passDays_17 : decode (mC m_MO_passDays) 17 = .ok (.goto 4, 3) := by decide +kernel
theorem d_MO_passDays_20 : decode (mC m_MO_passDays) 20 = .ok (.iconst 0, 1) := by decide +kernel
theorem d_MO_passDays_21 : decode (mC m_MO_passDays) 21 = .ok (.iconst 1, 1) := by decide +kernel
theorem d_MO_passDays_22 : decode (mC m_MO_passDays) 22 = .ok (.invokevirtual 154, 3) := by decide +kernel
theorem d_MO_passDays_25 : decode (mC m_MO_passDays) 25 = .ok (.ifCond .eq 5, 3) := by decide +kernel
theorem d_MO_passDays_28 : decode (mC m_MO_passDays) 28 = .ok (.iconst 0, 1) := by decide +kernel
theorem d_MO_passDays_29 : decode (mC m_MO_passDays) 29 = .ok (.ireturn, 1) := by decide +kernel
theorem d_MO_passDays_30 : decode (mC m_MO_passDays) 30 = .ok (.aload_n 0, 1) := by decide +kernel
theorem d_MO_passDays_31 : decode (mC m_MO_passDays) 31 = .ok (.iconst 0, 1) := by decide +kernel
theorem d_MO_passDays_32 : decode (mC m_MO_passDays) 32 = .ok (.invokevirtual 239, 3) := by decide +kernel
theorem d_MO_passDays_35 : decode (mC m_MO_passDays) 35 = .ok (.aload_n 0, 1) := by decide +kernel
theorem d_MO_passDays_36 : decode (mC m_MO_passDays) 36 = .ok (.iload_n 1, 1) := by decide +kernel
theorem d_MO_passDays_37 : decode (mC m_MO_passDays) 37 = .ok (.invokevirtual 275, 3) := by decide +kernel
theorem d_MO_passDays_40 : decode (mC m_MO_passDays) 40 = .ok (.ireturn, 1) := by decide +kernel
theorem d_MO_visit_0 : decode (mC m_MO_visit) 0 = .ok (.aload_n 0, 1) := by decide +kernel
theorem d_MO_visit_1 : decode (mC m_MO_visit) 1 = .ok (.iload_n 1, 1) := by decide +kernel
theorem d_MO_visit_2 : decode (mC m_MO_visit) 2 = .ok (.invokevirtual 284, 3) := by decide +kernel
theorem d_MO_visit_5 : decode (mC m_MO_visit) 5 = .ok (.ifCond .ne 24, 3) := by decide +kernel
theorem d_MO_visit_8 : decode (mC m_MO_visit) 8 = .ok (.aload_n 0, 1) := by decide +kernel
theorem d_MO_visit_9 : decode (mC m_MO_visit) 9 = .ok (.aload_n 0, 1) := by decide +kernel
theorem d_MO_visit_10 : decode (mC m_MO_visit) 10 = .ok (.iload_n 1, 1) := by decide +kernel
theorem d_MO_visit_11 : decode (mC m_MO_visit) 11 = .ok (.invokevirtual 115, 3) := by decide +kernel
theorem d_MO_visit_14 : decode (mC m_MO_visit) 14 = .ok (.ifCond .ne 7, 3) := by decide +kernel
theorem d_MO_visit_17 : decode (mC m_MO_visit) 17 = .ok (.iconst 1, 1) := by decide +kernel
theorem d_MO_visit_18 : decode (mC m_MO_visit) 18 = .ok (.goto 4, 3) := by decide +kernel
theorem d_MO_visit_21 : decode (mC m_MO_visit) 21 = .ok (.iconst 0, 1) := by decide +kernel
theorem d_MO_visit_22 : decode (mC m_MO_visit) 22 = .ok (.iconst 2, 1) := by decide +kernel
theorem d_MO_visit_23 : decode (mC m_MO_visit) 23 = .ok (.invokevirtual 154, 3) := by decide +kernel
theorem d_MO_visit_26 : decode (mC m_MO_visit) 26 = .ok (.ifCond .eq 5, 3) := by decide +kernel
theorem d_MO_visit_29 : decode (mC m_MO_visit) 29 = .ok (.iconst 0, 1) := by decide +kernel
theorem d_MO_visit_30 : decode (mC m_MO_visit) 30 = .ok (.ireturn, 1) := by decide +kernel
theorem d_MO_visit_31 : decode (mC m_MO_visit) 31 = .ok (.aload_n 0, 1) := by decide +kernel
theorem d_MO_visit_32 : decode (mC m_MO_visit) 32 = .ok (.iconst 0, 1) := by decide +kernel
theorem d_MO_visit_33 : decode (mC m_MO_visit) 33 = .ok (.invokevirtual 239, 3) := by decide +kernel
theorem d_MO_visit_36 : decode (mC m_MO_visit) 36 = .ok (.aload_n 0, 1) := by decide +kernel
theorem d_MO_visit_37 : decode (mC m_MO_visit) 37 = .ok (.iload_n 1, 1) := by decide +kernel
theorem d_MO_visit_38 : decode (mC m_MO_visit) 38 = .ok (.invokevirtual 142, 3) := by decide +kernel
theorem d_MO_visit_41 : decode (mC m_MO_visit) 41 = .ok (.ireturn, 1) := by decide +kernel
theorem d_MO_repair_0 : decode (mC m_MO_repair) 0 = .ok (.aload_n 0, 1) := by decide +kernel
theorem d_MO_repair_1 : decode (mC m_MO_repair) 1 = .ok (.iload_n 1, 1) := by decide +kernel
theorem d_MO_repair_2 : decode (mC m_MO_repair) 2 = .ok (.invokevirtual 284, 3) := by decide +kernel
theorem d_MO_repair_5 : decode (mC m_MO_repair) 5 = .ok (.ifCond .ne 24, 3) := by decide +kernel
theorem d_MO_repair_8 : decode (mC m_MO_repair) 8 = .ok (.aload_n 0, 1) := by decide +kernel
theorem d_MO_repair_9 : decode (mC m_MO_repair) 9 = .ok (.aload_n 0, 1) := by decide +kernel
theorem d_MO_repair_10 : decode (mC m_MO_repair) 10 = .ok (.iload_n 1, 1) := by decide +kernel
theorem d_MO_repair_11 : decode (mC m_MO_repair) 11 = .ok (.invokevirtual 251, 3) := by decide +kernel
theorem d_MO_repair_14 : decode (mC m_MO_repair) 14 = .ok (.ifCond .ne 7, 3) := by decide +kernel
theorem d_MO_repair_17 : decode (mC m_MO_repair) 17 = .ok (.iconst 1, 1) := by decide +kernel
theorem d_MO_repair_18 : decode (mC m_MO_repair) 18 = .ok (.goto 4, 3) := by decide +kernel
theorem d_MO_repair_21 : decode (mC m_MO_repair) 21 = .ok (.iconst 0, 1) := by decide +kernel
theorem d_MO_repair_22 : decode (mC m_MO_repair) 22 = .ok (.iconst 2, 1) := by decide +kernel
theorem d_MO_repair_23 : decode (mC m_MO_repair) 23 = .ok (.invokevirtual 154, 3) := by decide +kernel
theorem d_MO_repair_26 : decode (mC m_MO_repair) 26 = .ok (.ifCond .eq 5, 3) := by decide +kernel
theorem d_MO_repair_29 : decode (mC m_MO_repair) 29 = .ok (.iconst 0, 1) := by decide +kernel
theorem d_MO_repair_30 : decode (mC m_MO_repair) 30 = .ok (.ireturn, 1) := by decide +kernel
theorem d_MO_repair_31 : decode (mC m_MO_repair) 31 = .ok (.aload_n 0, 1) := by decide +kernel
theorem d_MO_repair_32 : decode (mC m_MO_repair) 32 = .ok (.iconst 0, 1) := by decide +kernel
theorem d_MO_repair_33 : decode (mC m_MO_repair) 33 = .ok (.invokevirtual 239, 3) := by decide +kernel
theorem d_MO_repair_36 : decode (mC m_MO_repair) 36 = .ok (.aload_n 0, 1) := by decide +kernel
theorem d_MO_repair_37 : decode (mC m_MO_repair) 37 = .ok (.iload_n 1, 1) := by decide +kernel
theorem d_MO_repair_38 : decode (mC m_MO_repair) 38 = .ok (.invokevirtual 254, 3) := by decide +kernel
theorem d_MO_repair_41 : decode (mC m_MO_repair) 41 = .ok (.ireturn, 1) := by decide +kernel
theorem d_MO_setThumb_0 : decode (mC m_MO_setThumb) 0 = .ok (.aload_n 0, 1) := by decide +kernel
theorem d_MO_setThumb_1 : decode (mC m_MO_setThumb) 1 = .ok (.iload_n 1, 1) := by decide +kernel
theorem d_MO_setThumb_2 : decode (mC m_MO_setThumb) 2 = .ok (.invokevirtual 284, 3) := by decide +kernel
theorem d_MO_setThumb_5 : decode (mC m_MO_setThumb) 5 = .ok (.ifCond .ne 26, 3) := by decide +kernel
theorem d_MO_setThumb_8 : decode (mC m_MO_setThumb) 8 = .ok (.aload_n 0, 1) := by decide +kernel
theorem d_MO_setThumb_9 : decode (mC m_MO_setThumb) 9 = .ok (.iload_n 2, 1) := by decide +kernel
theorem d_MO_setThumb_10 : decode (mC m_MO_setThumb) 10 = .ok (.iconst 0, 1) := by decide +kernel
theorem d_MO_setThumb_11 : decode (mC m_MO_setThumb) 11 = .ok (.bipush 100, 2) := by decide +kernel
theorem d_MO_setThumb_13 : decode (mC m_MO_setThumb) 13 = .ok (.invokestatic 161, 3) := by decide +kernel
theorem d_MO_setThumb_16 : decode (mC m_MO_setThumb) 16 = .ok (.ifCond .ne 7, 3) := by decide +kernel
theorem d_MO_setThumb_19 : decode (mC m_MO_setThumb) 19 = .ok (.iconst 1, 1) := by decide +kernel
theorem d_MO_setThumb_20 : decode (mC m_MO_setThumb) 20 = .ok (.goto 4, 3) := by decide +kernel
theorem d_MO_setThumb_23 : decode (mC m_MO_setThumb) 23 = .ok (.iconst 0, 1) := by decide +kernel
theorem d_MO_setThumb_24 : decode (mC m_MO_setThumb) 24 = .ok (.iconst 2, 1) := by decide +kernel
theorem d_MO_setThumb_25 : decode (mC m_MO_setThumb) 25 = .ok (.invokevirtual 154, 3) := by decide +kernel
theorem d_MO_setThumb_28 : decode (mC m_MO_setThumb) 28 = .ok (.ifCond .eq 5, 3) := by decide +kernel
theorem d_MO_setThumb_31 : decode (mC m_MO_setThumb) 31 = .ok (.iconst 0, 1) := by decide +kernel
theorem d_MO_setThumb_32 : decode (mC m_MO_setThumb) 32 = .ok (.ireturn, 1) := by decide +kernel
theorem d_MO_setThumb_33 : decode (mC m_MO_setThumb) 33 = .ok (.aload_n 0, 1) := by decide +kernel
theorem d_MO_setThumb_34 : decode (mC m_MO_setThumb) 34 = .ok (.iconst 0, 1) := by decide +kernel
theorem d_MO_setThumb_35 : decode (mC m_MO_setThumb) 35 = .ok (.invokevirtual 239, 3) := by decide +kernel
theorem d_MO_setThumb_38 : decode (mC m_MO_setThumb) 38 = .ok (.aload_n 0, 1) := by decide +kernel
theorem d_MO_setThumb_39 : decode (mC m_MO_setThumb) 39 = .ok (.iload_n 1, 1) := by decide +kernel
theorem d_MO_setThumb_40 : decode (mC m_MO_setThumb) 40 = .ok (.bipush 6, 2) := by decide +kernel
theorem d_MO_setThumb_42 : decode (mC m_MO_setThumb) 42 = .ok (.invokevirtual 69, 3) := by decide +kernel
theorem d_MO_setThumb_45 : decode (mC m_MO_setThumb) 45 = .ok (.istore_n 3, 1) := by decide +kernel
theorem d_MO_setThumb_46 : decode (mC m_MO_setThumb) 46 = .ok (.aload_n 0, 1) := by decide +kernel
theorem d_MO_setThumb_47 : decode (mC m_MO_setThumb) 47 = .ok (.iload_n 1, 1) := by decide +kernel
theorem d_MO_setThumb_48 : decode (mC m_MO_setThumb) 48 = .ok (.bipush 6, 2) := by decide +kernel
theorem d_MO_setThumb_50 : decode (mC m_MO_setThumb) 50 = .ok (.iload_n 2, 1) := by decide +kernel
theorem d_MO_setThumb_51 : decode (mC m_MO_setThumb) 51 = .ok (.invokevirtual 65, 3) := by decide +kernel
theorem d_MO_setThumb_54 : decode (mC m_MO_setThumb) 54 = .ok (.iload_n 3, 1) := by decide +kernel
theorem d_MO_setThumb_55 : decode (mC m_MO_setThumb) 55 = .ok (.ireturn, 1) := by decide +kernel
theorem d_MO_complain_0 : decode (mC m_MO_complain) 0 = .ok (.aload_n 0, 1) := by decide +kernel
theorem d_MO_complain_1 : decode (mC m_MO_complain) 1 = .ok (.iload_n 1, 1) := by decide +kernel
theorem d_MO_complain_2 : decode (mC m_MO_complain) 2 = .ok (.invokevirtual 284, 3) := by decide +kernel
theorem d_MO_complain_5 : decode (mC m_MO_complain) 5 = .ok (.ifCond .ne 24, 3) := by decide +kernel
theorem d_MO_complain_8 : decode (mC m_MO_complain) 8 = .ok (.aload_n 0, 1) := by decide +kernel
theorem d_MO_complain_9 : decode (mC m_MO_complain) 9 = .ok (.aload_n 0, 1) := by decide +kernel
theorem d_MO_complain_10 : decode (mC m_MO_complain) 10 = .ok (.iload_n 1, 1) := by decide +kernel
theorem d_MO_complain_11 : decode (mC m_MO_complain) 11 = .ok (.invokevirtual 115, 3) := by decide +kernel
theorem d_MO_complain_14 : decode (mC m_MO_complain) 14 = .ok (.ifCond .ne 7, 3) := by decide +kernel
theorem d_MO_complain_17 : decode (mC m_MO_complain) 17 = .ok (.iconst 1, 1) := by decide +kernel
theorem d_MO_complain_18 : decode (mC m_MO_complain) 18 = .ok (.goto 4, 3) := by decide +kernel
theorem d_MO_complain_21 : decode (mC m_MO_complain) 21 = .ok (.iconst 0, 1) := by decide +kernel
theorem d_MO_complain_22 : decode (mC m_MO_complain) 22 = .ok (.iconst 2, 1) := by decide +kernel
theorem d_MO_complain_23 : decode (mC m_MO_complain) 23 = .ok (.invokevirtual 154, 3) := by decide +kernel
theorem d_MO_complain_26 : decode (mC m_MO_complain) 26 = .ok (.ifCond .eq 5, 3) := by decide +kernel
theorem d_MO_complain_29 : decode (mC m_MO_complain) 29 = .ok (.iconst 0, 1) := by decide +kernel
theorem d_MO_complain_30 : decode (mC m_MO_complain) 30 = .ok (.ireturn, 1) := by decide +kernel
theorem d_MO_complain_31 : decode (mC m_MO_complain) 31 = .ok (.aload_n 0, 1) := by decide +kernel
theorem d_MO_complain_32 : decode (mC m_MO_complain) 32 = .ok (.iconst 0, 1) := by decide +kernel
theorem d_MO_complain_33 : decode (mC m_MO_complain) 33 = .ok (.invokevirtual 239, 3) := by decide +kernel
theorem d_MO_complain_36 : decode (mC m_MO_complain) 36 = .ok (.aload_n 0, 1) := by decide +kernel
theorem d_MO_complain_37 : decode (mC m_MO_complain) 37 = .ok (.iload_n 1, 1) := by decide +kernel
theorem d_MO_complain_38 : decode (mC m_MO_complain) 38 = .ok (.invokevirtual 257, 3) := by decide +kernel
theorem d_MO_complain_41 : decode (mC m_MO_complain) 41 = .ok (.ireturn, 1) := by decide +kernel
theorem d_MO_reopen_0 : decode (mC m_MO_reopen) 0 = .ok (.aload_n 0, 1) := by decide +kernel
theorem d_MO_reopen_1 : decode (mC m_MO_reopen) 1 = .ok (.iload_n 1, 1) := by decide +kernel
theorem d_MO_reopen_2 : decode (mC m_MO_reopen) 2 = .ok (.invokevirtual 284, 3) := by decide +kernel
theorem d_MO_reopen_5 : decode (mC m_MO_reopen) 5 = .ok (.ifCond .ne 16, 3) := by decide +kernel
theorem d_MO_reopen_8 : decode (mC m_MO_reopen) 8 = .ok (.aload_n 0, 1) := by decide +kernel
theorem d_MO_reopen_9 : decode (mC m_MO_reopen) 9 = .ok (.aload_n 0, 1) := by decide +kernel
theorem d_MO_reopen_10 : decode (mC m_MO_reopen) 10 = .ok (.iload_n 1, 1) := by decide +kernel
theorem d_MO_reopen_11 : decode (mC m_MO_reopen) 11 = .ok (.invokevirtual 115, 3) := by decide +kernel
theorem d_MO_reopen_14 : decode (mC m_MO_reopen) 14 = .ok (.iconst 2, 1) := by decide +kernel
theorem d_MO_reopen_15 : decode (mC m_MO_reopen) 15 = .ok (.invokevirtual 154, 3) := by decide +kernel
theorem d_MO_reopen_18 : decode (mC m_MO_reopen) 18 = .ok (.ifCond .eq 5, 3) := by decide +kernel
theorem d_MO_reopen_21 : decode (mC m_MO_reopen) 21 = .ok (.iconst 0, 1) := by decide +kernel
theorem d_MO_reopen_22 : decode (mC m_MO_reopen) 22 = .ok (.ireturn, 1) := by decide +kernel
theorem d_MO_reopen_23 : decode (mC m_MO_reopen) 23 = .ok (.aload_n 0, 1) := by decide +kernel
theorem d_MO_reopen_24 : decode (mC m_MO_reopen) 24 = .ok (.iconst 0, 1) := by decide +kernel
theorem d_MO_reopen_25 : decode (mC m_MO_reopen) 25 = .ok (.invokevirtual 239, 3) := by decide +kernel
theorem d_MO_reopen_28 : decode (mC m_MO_reopen) 28 = .ok (.aload_n 0, 1) := by decide +kernel
theorem d_MO_reopen_29 : decode (mC m_MO_reopen) 29 = .ok (.iload_n 1, 1) := by decide +kernel
theorem d_MO_reopen_30 : decode (mC m_MO_reopen) 30 = .ok (.invokevirtual 260, 3) := by decide +kernel
theorem d_MO_reopen_33 : decode (mC m_MO_reopen) 33 = .ok (.ireturn, 1) := by decide +kernel
theorem d_MO_setInspectors_0 : decode (mC m_MO_setInspectors) 0 = .ok (.aload_n 0, 1) := by decide +kernel
theorem d_MO_setInspectors_1 : decode (mC m_MO_setInspectors) 1 = .ok (.iconst 0, 1) := by decide +kernel
theorem d_MO_setInspectors_2 : decode (mC m_MO_setInspectors) 2 = .ok (.putfield 52, 3) := by decide +kernel
theorem d_MO_setInspectors_5 : decode (mC m_MO_setInspectors) 5 = .ok (.aload_n 0, 1) := by decide +kernel
theorem d_MO_setInspectors_6 : decode (mC m_MO_setInspectors) 6 = .ok (.iload_n 1, 1) := by decide +kernel
theorem d_MO_setInspectors_7 : decode (mC m_MO_setInspectors) 7 = .ok (.iconst 0, 1) := by decide +kernel
theorem d_MO_setInspectors_8 : decode (mC m_MO_setInspectors) 8 = .ok (.iconst 3, 1) := by decide +kernel
theorem d_MO_setInspectors_9 : decode (mC m_MO_setInspectors) 9 = .ok (.invokestatic 161, 3) := by decide +kernel
theorem d_MO_setInspectors_12 : decode (mC m_MO_setInspectors) 12 = .ok (.ifCond .ne 7, 3) := by decide +kernel
theorem d_MO_setInspectors_15 : decode (mC m_MO_setInspectors) 15 = .ok (.iconst 1, 1) := by decide +kernel
theorem d_MO_setInspectors_16 : decode (mC m_MO_setInspectors) 16 = .ok (.goto 4, 3) := by decide +kernel
theorem d_MO_setInspectors_19 : decode (mC m_MO_setInspectors) 19 = .ok (.iconst 0, 1) := by decide +kernel
theorem d_MO_setInspectors_20 : decode (mC m_MO_setInspectors) 20 = .ok (.iconst 1, 1) := by decide +kernel
theorem d_MO_setInspectors_21 : decode (mC m_MO_setInspectors) 21 = .ok (.invokevirtual 154, 3) := by decide +kernel
theorem d_MO_setInspectors_24 : decode (mC m_MO_setInspectors) 24 = .ok (.ifCond .eq 5, 3) := by decide +kernel
theorem d_MO_setInspectors_27 : decode (mC m_MO_setInspectors) 27 = .ok (.iconst 0, 1) := by decide +kernel
theorem d_MO_setInspectors_28 : decode (mC m_MO_setInspectors) 28 = .ok (.ireturn, 1) := by decide +kernel
theorem d_MO_setInspectors_29 : decode (mC m_MO_setInspectors) 29 = .ok (.aload_n 0, 1) := by decide +kernel
theorem d_MO_setInspectors_30 : decode (mC m_MO_setInspectors) 30 = .ok (.iconst 5, 1) := by decide +kernel
theorem d_MO_setInspectors_31 : decode (mC m_MO_setInspectors) 31 = .ok (.iload_n 1, 1) := by decide +kernel
theorem d_MO_setInspectors_32 : decode (mC m_MO_setInspectors) 32 = .ok (.invokevirtual 287, 3) := by decide +kernel
theorem d_MO_setInspectors_35 : decode (mC m_MO_setInspectors) 35 = .ok (.ireturn, 1) := by decide +kernel
theorem d_MO_setFee_0 : decode (mC m_MO_setFee) 0 = .ok (.aload_n 0, 1) := by decide +kernel
theorem d_MO_setFee_1 : decode (mC m_MO_setFee) 1 = .ok (.iconst 0, 1) := by decide +kernel
theorem d_MO_setFee_2 : decode (mC m_MO_setFee) 2 = .ok (.putfield 52, 3) := by decide +kernel
theorem d_MO_setFee_5 : decode (mC m_MO_setFee) 5 = .ok (.aload_n 0, 1) := by decide +kernel
theorem d_MO_setFee_6 : decode (mC m_MO_setFee) 6 = .ok (.iload_n 1, 1) := by decide +kernel
theorem d_MO_setFee_7 : decode (mC m_MO_setFee) 7 = .ok (.iconst 0, 1) := by decide +kernel
theorem d_MO_setFee_8 : decode (mC m_MO_setFee) 8 = .ok (.bipush 99, 2) := by decide +kernel
theorem d_MO_setFee_10 : decode (mC m_MO_setFee) 10 = .ok (.invokestatic 161, 3) := by decide +kernel
theorem d_MO_setFee_13 : decode (mC m_MO_setFee) 13 = .ok (.ifCond .ne 7, 3) := by decide +kernel
theorem d_MO_setFee_16 : decode (mC m_MO_setFee) 16 = .ok (.iconst 1, 1) := by decide +kernel
theorem d_MO_setFee_17 : decode (mC m_MO_setFee) 17 = .ok (.goto 4, 3) := by decide +kernel
theorem d_MO_setFee_20 : decode (mC m_MO_setFee) 20 = .ok (.iconst 0, 1) := by decide +kernel
theorem d_MO_setFee_21 : decode (mC m_MO_setFee) 21 = .ok (.iconst 1, 1) := by decide +kernel
theorem d_MO_setFee_22 : decode (mC m_MO_setFee) 22 = .ok (.invokevirtual 154, 3) := by decide +kernel
theorem d_MO_setFee_25 : decode (mC m_MO_setFee) 25 = .ok (.ifCond .eq 5, 3) := by decide +kernel
theorem d_MO_setFee_28 : decode (mC m_MO_setFee) 28 = .ok (.iconst 0, 1) := by decide +kernel
theorem d_MO_setFee_29 : decode (mC m_MO_setFee) 29 = .ok (.ireturn, 1) := by decide +kernel
theorem d_MO_setFee_30 : decode (mC m_MO_setFee) 30 = .ok (.aload_n 0, 1) := by decide +kernel
theorem d_MO_setFee_31 : decode (mC m_MO_setFee) 31 = .ok (.iconst 2, 1) := by decide +kernel
theorem d_MO_setFee_32 : decode (mC m_MO_setFee) 32 = .ok (.iload_n 1, 1) := by decide +kernel
theorem d_MO_setFee_33 : decode (mC m_MO_setFee) 33 = .ok (.invokevirtual 287, 3) := by decide +kernel
theorem d_MO_setFee_36 : decode (mC m_MO_setFee) 36 = .ok (.ireturn, 1) := by decide +kernel
theorem d_MO_day_0 : decode (mC m_MO_day) 0 = .ok (.aload_n 0, 1) := by decide +kernel
theorem d_MO_day_1 : decode (mC m_MO_day) 1 = .ok (.iconst 0, 1) := by decide +kernel
theorem d_MO_day_2 : decode (mC m_MO_day) 2 = .ok (.putfield 52, 3) := by decide +kernel
theorem d_MO_day_5 : decode (mC m_MO_day) 5 = .ok (.aload_n 0, 1) := by decide +kernel
theorem d_MO_day_6 : decode (mC m_MO_day) 6 = .ok (.getfield 7, 3) := by decide +kernel
theorem d_MO_day_9 : decode (mC m_MO_day) 9 = .ok (.bipush 9, 2) := by decide +kernel
theorem d_MO_day_11 : decode (mC m_MO_day) 11 = .ok (.iaload, 1) := by decide +kernel
theorem d_MO_day_12 : decode (mC m_MO_day) 12 = .ok (.ireturn, 1) := by decide +kernel
theorem d_MO_weightCount_0 : decode (mC m_MO_weightCount) 0 = .ok (.aload_n 0, 1) := by decide +kernel
theorem d_MO_weightCount_1 : decode (mC m_MO_weightCount) 1 = .ok (.iconst 0, 1) := by decide +kernel
theorem d_MO_weightCount_2 : decode (mC m_MO_weightCount) 2 = .ok (.putfield 52, 3) := by decide +kernel
theorem d_MO_weightCount_5 : decode (mC m_MO_weightCount) 5 = .ok (.aload_n 0, 1) := by decide +kernel
theorem d_MO_weightCount_6 : decode (mC m_MO_weightCount) 6 = .ok (.getfield 7, 3) := by decide +kernel
theorem d_MO_weightCount_9 : decode (mC m_MO_weightCount) 9 = .ok (.bipush 7, 2) := by decide +kernel
theorem d_MO_weightCount_11 : decode (mC m_MO_weightCount) 11 = .ok (.iaload, 1) := by decide +kernel
theorem d_MO_weightCount_12 : decode (mC m_MO_weightCount) 12 = .ok (.ireturn, 1) := by decide +kernel
theorem d_MO_testWeight_0 : decode (mC m_MO_testWeight) 0 = .ok (.aload_n 0, 1) := by decide +kernel
theorem d_MO_testWeight_1 : decode (mC m_MO_testWeight) 1 = .ok (.iconst 0, 1) := by decide +kernel
theorem d_MO_testWeight_2 : decode (mC m_MO_testWeight) 2 = .ok (.putfield 52, 3) := by decide +kernel
theorem d_MO_testWeight_5 : decode (mC m_MO_testWeight) 5 = .ok (.aload_n 0, 1) := by decide +kernel
theorem d_MO_testWeight_6 : decode (mC m_MO_testWeight) 6 = .ok (.iload_n 1, 1) := by decide +kernel
theorem d_MO_testWeight_7 : decode (mC m_MO_testWeight) 7 = .ok (.iconst 0, 1) := by decide +kernel
theorem d_MO_testWeight_8 : decode (mC m_MO_testWeight) 8 = .ok (.aload_n 0, 1) := by decide +kernel
theorem d_MO_testWeight_9 : decode (mC m_MO_testWeight) 9 = .ok (.getfield 7, 3) := by decide +kernel
theorem d_MO_testWeight_12 : decode (mC m_MO_testWeight) 12 = .ok (.bipush 7, 2) := by decide +kernel
theorem d_MO_testWeight_14 : decode (mC m_MO_testWeight) 14 = .ok (.iaload, 1) := by decide +kernel
theorem d_MO_testWeight_15 : decode (mC m_MO_testWeight) 15 = .ok (.iconst 1, 1) := by decide +kernel
theorem d_MO_testWeight_16 : decode (mC m_MO_testWeight) 16 = .ok (.isub, 1) := by decide +kernel
theorem d_MO_testWeight_17 : decode (mC m_MO_testWeight) 17 = .ok (.invokestatic 161, 3) := by decide +kernel
theorem d_MO_testWeight_20 : decode (mC m_MO_testWeight) 20 = .ok (.ifCond .ne 7, 3) := by decide +kernel
theorem d_MO_testWeight_23 : decode (mC m_MO_testWeight) 23 = .ok (.iconst 1, 1) := by decide +kernel
theorem d_MO_testWeight_24 : decode (mC m_MO_testWeight) 24 = .ok (.goto 4, 3) := by decide +kernel
theorem d_MO_testWeight_27 : decode (mC m_MO_testWeight) 27 = .ok (.iconst 0, 1) := by decide +kernel
theorem d_MO_testWeight_28 : decode (mC m_MO_testWeight) 28 = .ok (.iconst 1, 1) := by decide +kernel
theorem d_MO_testWeight_29 : decode (mC m_MO_testWeight) 29 = .ok (.invokevirtual 154, 3) := by decide +kernel
theorem d_MO_testWeight_32 : decode (mC m_MO_testWeight) 32 = .ok (.ifCond .eq 5, 3) := by decide +kernel
theorem d_MO_testWeight_35 : decode (mC m_MO_testWeight) 35 = .ok (.iconst 0, 1) := by decide +kernel
theorem d_MO_testWeight_36 : decode (mC m_MO_testWeight) 36 = .ok (.ireturn, 1) := by decide +kernel
theorem d_MO_testWeight_37 : decode (mC m_MO_testWeight) 37 = .ok (.aload_n 0, 1) := by decide +kernel
theorem d_MO_testWeight_38 : decode (mC m_MO_testWeight) 38 = .ok (.getfield 7, 3) := by decide +kernel
theorem d_MO_testWeight_41 : decode (mC m_MO_testWeight) 41 = .ok (.bipush 14, 2) := by decide +kernel
theorem d_MO_testWeight_43 : decode (mC m_MO_testWeight) 43 = .ok (.iload_n 1, 1) := by decide +kernel
theorem d_MO_testWeight_44 : decode (mC m_MO_testWeight) 44 = .ok (.iadd, 1) := by decide +kernel
theorem d_MO_testWeight_45 : decode (mC m_MO_testWeight) 45 = .ok (.iaload, 1) := by decide +kernel
theorem d_MO_testWeight_46 : decode (mC m_MO_testWeight) 46 = .ok (.ireturn, 1) := by decide +kernel
theorem d_MO_bound_0 : decode (mC m_MO_bound) 0 = .ok (.aload_n 0, 1) := by decide +kernel
theorem d_MO_bound_1 : decode (mC m_MO_bound) 1 = .ok (.iconst 0, 1) := by decide +kernel
theorem d_MO_bound_2 : decode (mC m_MO_bound) 2 = .ok (.putfield 52, 3) := by decide +kernel
theorem d_MO_bound_5 : decode (mC m_MO_bound) 5 = .ok (.aload_n 0, 1) := by decide +kernel
theorem d_MO_bound_6 : decode (mC m_MO_bound) 6 = .ok (.iload_n 1, 1) := by decide +kernel
theorem d_MO_bound_7 : decode (mC m_MO_bound) 7 = .ok (.iconst 1, 1) := by decide +kernel
theorem d_MO_bound_8 : decode (mC m_MO_bound) 8 = .ok (.sipush 5000, 3) := by decide +kernel
theorem d_MO_bound_11 : decode (mC m_MO_bound) 11 = .ok (.invokestatic 161, 3) := by decide +kernel
theorem d_MO_bound_14 : decode (mC m_MO_bound) 14 = .ok (.ifCond .ne 7, 3) := by decide +kernel
theorem d_MO_bound_17 : decode (mC m_MO_bound) 17 = .ok (.iconst 1, 1) := by decide +kernel
theorem d_MO_bound_18 : decode (mC m_MO_bound) 18 = .ok (.goto 4, 3) := by decide +kernel
theorem d_MO_bound_21 : decode (mC m_MO_bound) 21 = .ok (.iconst 0, 1) := by decide +kernel
theorem d_MO_bound_22 : decode (mC m_MO_bound) 22 = .ok (.iconst 1, 1) := by decide +kernel
theorem d_MO_bound_23 : decode (mC m_MO_bound) 23 = .ok (.invokevirtual 154, 3) := by decide +kernel
theorem d_MO_bound_26 : decode (mC m_MO_bound) 26 = .ok (.ifCond .eq 5, 3) := by decide +kernel
theorem d_MO_bound_29 : decode (mC m_MO_bound) 29 = .ok (.iconst 0, 1) := by decide +kernel
theorem d_MO_bound_30 : decode (mC m_MO_bound) 30 = .ok (.ireturn, 1) := by decide +kernel
theorem d_MO_bound_31 : decode (mC m_MO_bound) 31 = .ok (.aload_n 0, 1) := by decide +kernel
theorem d_MO_bound_32 : decode (mC m_MO_bound) 32 = .ok (.iload_n 1, 1) := by decide +kernel
theorem d_MO_bound_33 : decode (mC m_MO_bound) 33 = .ok (.invokevirtual 76, 3) := by decide +kernel
theorem d_MO_bound_36 : decode (mC m_MO_bound) 36 = .ok (.ireturn, 1) := by decide +kernel
theorem d_MO_fee_0 : decode (mC m_MO_fee) 0 = .ok (.aload_n 0, 1) := by decide +kernel
theorem d_MO_fee_1 : decode (mC m_MO_fee) 1 = .ok (.iconst 0, 1) := by decide +kernel
theorem d_MO_fee_2 : decode (mC m_MO_fee) 2 = .ok (.putfield 52, 3) := by decide +kernel
theorem d_MO_fee_5 : decode (mC m_MO_fee) 5 = .ok (.aload_n 0, 1) := by decide +kernel
theorem d_MO_fee_6 : decode (mC m_MO_fee) 6 = .ok (.getfield 7, 3) := by decide +kernel
theorem d_MO_fee_9 : decode (mC m_MO_fee) 9 = .ok (.iconst 2, 1) := by decide +kernel
theorem d_MO_fee_10 : decode (mC m_MO_fee) 10 = .ok (.iaload, 1) := by decide +kernel
theorem d_MO_fee_11 : decode (mC m_MO_fee) 11 = .ok (.ireturn, 1) := by decide +kernel
theorem d_MO_inspectors_0 : decode (mC m_MO_inspectors) 0 = .ok (.aload_n 0, 1) := by decide +kernel
theorem d_MO_inspectors_1 : decode (mC m_MO_inspectors) 1 = .ok (.iconst 0, 1) := by decide +kernel
theorem d_MO_inspectors_2 : decode (mC m_MO_inspectors) 2 = .ok (.putfield 52, 3) := by decide +kernel
theorem d_MO_inspectors_5 : decode (mC m_MO_inspectors) 5 = .ok (.aload_n 0, 1) := by decide +kernel
theorem d_MO_inspectors_6 : decode (mC m_MO_inspectors) 6 = .ok (.getfield 7, 3) := by decide +kernel
theorem d_MO_inspectors_9 : decode (mC m_MO_inspectors) 9 = .ok (.iconst 5, 1) := by decide +kernel
theorem d_MO_inspectors_10 : decode (mC m_MO_inspectors) 10 = .ok (.iaload, 1) := by decide +kernel
theorem d_MO_inspectors_11 : decode (mC m_MO_inspectors) 11 = .ok (.ireturn, 1) := by decide +kernel
theorem d_MO_seed_0 : decode (mC m_MO_seed) 0 = .ok (.aload_n 0, 1) := by decide +kernel
theorem d_MO_seed_1 : decode (mC m_MO_seed) 1 = .ok (.iconst 0, 1) := by decide +kernel
theorem d_MO_seed_2 : decode (mC m_MO_seed) 2 = .ok (.putfield 52, 3) := by decide +kernel
theorem d_MO_seed_5 : decode (mC m_MO_seed) 5 = .ok (.aload_n 0, 1) := by decide +kernel
theorem d_MO_seed_6 : decode (mC m_MO_seed) 6 = .ok (.getfield 7, 3) := by decide +kernel
theorem d_MO_seed_9 : decode (mC m_MO_seed) 9 = .ok (.bipush 6, 2) := by decide +kernel
theorem d_MO_seed_11 : decode (mC m_MO_seed) 11 = .ok (.iaload, 1) := by decide +kernel
theorem d_MO_seed_12 : decode (mC m_MO_seed) 12 = .ok (.ireturn, 1) := by decide +kernel
theorem d_MO_bureauCoins_0 : decode (mC m_MO_bureauCoins) 0 = .ok (.aload_n 0, 1) := by decide +kernel
theorem d_MO_bureauCoins_1 : decode (mC m_MO_bureauCoins) 1 = .ok (.iconst 0, 1) := by decide +kernel
theorem d_MO_bureauCoins_2 : decode (mC m_MO_bureauCoins) 2 = .ok (.putfield 52, 3) := by decide +kernel
theorem d_MO_bureauCoins_5 : decode (mC m_MO_bureauCoins) 5 = .ok (.aload_n 0, 1) := by decide +kernel
theorem d_MO_bureauCoins_6 : decode (mC m_MO_bureauCoins) 6 = .ok (.getfield 7, 3) := by decide +kernel
theorem d_MO_bureauCoins_9 : decode (mC m_MO_bureauCoins) 9 = .ok (.bipush 10, 2) := by decide +kernel
theorem d_MO_bureauCoins_11 : decode (mC m_MO_bureauCoins) 11 = .ok (.iaload, 1) := by decide +kernel
theorem d_MO_bureauCoins_12 : decode (mC m_MO_bureauCoins) 12 = .ok (.ireturn, 1) := by decide +kernel
theorem d_MO_visits_0 : decode (mC m_MO_visits) 0 = .ok (.aload_n 0, 1) := by decide +kernel
theorem d_MO_visits_1 : decode (mC m_MO_visits) 1 = .ok (.iconst 0, 1) := by decide +kernel
theorem d_MO_visits_2 : decode (mC m_MO_visits) 2 = .ok (.putfield 52, 3) := by decide +kernel
theorem d_MO_visits_5 : decode (mC m_MO_visits) 5 = .ok (.aload_n 0, 1) := by decide +kernel
theorem d_MO_visits_6 : decode (mC m_MO_visits) 6 = .ok (.getfield 7, 3) := by decide +kernel
theorem d_MO_visits_9 : decode (mC m_MO_visits) 9 = .ok (.bipush 11, 2) := by decide +kernel
theorem d_MO_visits_11 : decode (mC m_MO_visits) 11 = .ok (.iaload, 1) := by decide +kernel
theorem d_MO_visits_12 : decode (mC m_MO_visits) 12 = .ok (.ireturn, 1) := by decide +kernel
theorem d_MO_offset_0 : decode (mC m_MO_offset) 0 = .ok (.aload_n 0, 1) := by decide +kernel
theorem d_MO_offset_1 : decode (mC m_MO_offset) 1 = .ok (.iload_n 1, 1) := by decide +kernel
theorem d_MO_offset_2 : decode (mC m_MO_offset) 2 = .ok (.invokevirtual 284, 3) := by decide +kernel
theorem d_MO_offset_5 : decode (mC m_MO_offset) 5 = .ok (.ifCond .eq 5, 3) := by decide +kernel
theorem d_MO_offset_8 : decode (mC m_MO_offset) 8 = .ok (.iconst 0, 1) := by decide +kernel
theorem d_MO_offset_9 : decode (mC m_MO_offset) 9 = .ok (.ireturn, 1) := by decide +kernel
theorem d_MO_offset_10 : decode (mC m_MO_offset) 10 = .ok (.aload_n 0, 1) := by decide +kernel
theorem d_MO_offset_11 : decode (mC m_MO_offset) 11 = .ok (.iload_n 1, 1) := by decide +kernel
theorem d_MO_offset_12 : decode (mC m_MO_offset) 12 = .ok (.iconst 1, 1) := by decide +kernel
theorem d_MO_offset_13 : decode (mC m_MO_offset) 13 = .ok (.invokevirtual 69, 3) := by decide +kernel
theorem d_MO_offset_16 : decode (mC m_MO_offset) 16 = .ok (.ireturn, 1) := by decide +kernel
theorem d_MO_slope_0 : decode (mC m_MO_slope) 0 = .ok (.aload_n 0, 1) := by decide +kernel
theorem d_MO_slope_1 : decode (mC m_MO_slope) 1 = .ok (.iload_n 1, 1) := by decide +kernel
theorem d_MO_slope_2 : decode (mC m_MO_slope) 2 = .ok (.invokevirtual 284, 3) := by decide +kernel
theorem d_MO_slope_5 : decode (mC m_MO_slope) 5 = .ok (.ifCond .eq 5, 3) := by decide +kernel
theorem d_MO_slope_8 : decode (mC m_MO_slope) 8 = .ok (.iconst 0, 1) := by decide +kernel
theorem d_MO_slope_9 : decode (mC m_MO_slope) 9 = .ok (.ireturn, 1) := by decide +kernel
theorem d_MO_slope_10 : decode (mC m_MO_slope) 10 = .ok (.aload_n 0, 1) := by decide +kernel
theorem d_MO_slope_11 : decode (mC m_MO_slope) 11 = .ok (.iload_n 1, 1) := by decide +kernel
theorem d_MO_slope_12 : decode (mC m_MO_slope) 12 = .ok (.iconst 2, 1) := by decide +kernel
theorem d_MO_slope_13 : decode (mC m_MO_slope) 13 = .ok (.invokevirtual 69, 3) := by decide +kernel
theorem d_MO_slope_16 : decode (mC m_MO_slope) 16 = .ok (.ireturn, 1) := by decide +kernel
theorem d_MO_drift_0 : decode (mC m_MO_drift) 0 = .ok (.aload_n 0, 1) := by decide +kernel
theorem d_MO_drift_1 : decode (mC m_MO_drift) 1 = .ok (.iload_n 1, 1) := by decide +kernel
theorem d_MO_drift_2 : decode (mC m_MO_drift) 2 = .ok (.invokevirtual 284, 3) := by decide +kernel
theorem d_MO_drift_5 : decode (mC m_MO_drift) 5 = .ok (.ifCond .eq 5, 3) := by decide +kernel
theorem d_MO_drift_8 : decode (mC m_MO_drift) 8 = .ok (.iconst 0, 1) := by decide +kernel
theorem d_MO_drift_9 : decode (mC m_MO_drift) 9 = .ok (.ireturn, 1) := by decide +kernel
theorem d_MO_drift_10 : decode (mC m_MO_drift) 10 = .ok (.aload_n 0, 1) := by decide +kernel
theorem d_MO_drift_11 : decode (mC m_MO_drift) 11 = .ok (.iload_n 1, 1) := by decide +kernel
theorem d_MO_drift_12 : decode (mC m_MO_drift) 12 = .ok (.iconst 3, 1) := by decide +kernel
theorem d_MO_drift_13 : decode (mC m_MO_drift) 13 = .ok (.invokevirtual 69, 3) := by decide +kernel
theorem d_MO_drift_16 : decode (mC m_MO_drift) 16 = .ok (.ireturn, 1) := by decide +kernel
theorem d_MO_reading_0 : decode (mC m_MO_reading) 0 = .ok (.aload_n 0, 1) := by decide +kernel
theorem d_MO_reading_1 : decode (mC m_MO_reading) 1 = .ok (.iload_n 1, 1) := by decide +kernel
theorem d_MO_reading_2 : decode (mC m_MO_reading) 2 = .ok (.iload_n 2, 1) := by decide +kernel
theorem d_MO_reading_3 : decode (mC m_MO_reading) 3 = .ok (.invokevirtual 290, 3) := by decide +kernel
theorem d_MO_reading_6 : decode (mC m_MO_reading) 6 = .ok (.ifCond .eq 5, 3) := by decide +kernel
theorem d_MO_reading_9 : decode (mC m_MO_reading) 9 = .ok (.iconst 0, 1) := by decide +kernel
theorem d_MO_reading_10 : decode (mC m_MO_reading) 10 = .ok (.ireturn, 1) := by decide +kernel
theorem d_MO_reading_11 : decode (mC m_MO_reading) 11 = .ok (.iload_n 2, 1) := by decide +kernel
theorem d_MO_reading_12 : decode (mC m_MO_reading) 12 = .ok (.aload_n 0, 1) := by decide +kernel
theorem d_MO_reading_13 : decode (mC m_MO_reading) 13 = .ok (.iload_n 1, 1) := by decide +kernel
theorem d_MO_reading_14 : decode (mC m_MO_reading) 14 = .ok (.iload_n 2, 1) := by decide +kernel
theorem d_MO_reading_15 : decode (mC m_MO_reading) 15 = .ok (.invokevirtual 73, 3) := by decide +kernel
theorem d_MO_reading_18 : decode (mC m_MO_reading) 18 = .ok (.iadd, 1) := by decide +kernel
theorem d_MO_reading_19 : decode (mC m_MO_reading) 19 = .ok (.ireturn, 1) := by decide +kernel
theorem d_MO_excess_0 : decode (mC m_MO_excess) 0 = .ok (.aload_n 0, 1) := by decide +kernel
theorem d_MO_excess_1 : decode (mC m_MO_excess) 1 = .ok (.iload_n 1, 1) := by decide +kernel
theorem d_MO_excess_2 : decode (mC m_MO_excess) 2 = .ok (.iload_n 2, 1) := by decide +kernel
theorem d_MO_excess_3 : decode (mC m_MO_excess) 3 = .ok (.invokevirtual 290, 3) := by decide +kernel
theorem d_MO_excess_6 : decode (mC m_MO_excess) 6 = .ok (.ifCond .eq 5, 3) := by decide +kernel
theorem d_MO_excess_9 : decode (mC m_MO_excess) 9 = .ok (.iconst 0, 1) := by decide +kernel
theorem d_MO_excess_10 : decode (mC m_MO_excess) 10 = .ok (.ireturn, 1) := by decide +kernel
theorem d_MO_excess_11 : decode (mC m_MO_excess) 11 = .ok (.aload_n 0, 1) := by decide +kernel
theorem d_MO_excess_12 : decode (mC m_MO_excess) 12 = .ok (.iload_n 1, 1) := by decide +kernel
theorem d_MO_excess_13 : decode (mC m_MO_excess) 13 = .ok (.iload_n 2, 1) := by decide +kernel
theorem d_MO_excess_14 : decode (mC m_MO_excess) 14 = .ok (.invokevirtual 80, 3) := by decide +kernel
theorem d_MO_excess_17 : decode (mC m_MO_excess) 17 = .ok (.ireturn, 1) := by decide +kernel
theorem d_MO_totalExcess_0 : decode (mC m_MO_totalExcess) 0 = .ok (.aload_n 0, 1) := by decide +kernel
theorem d_MO_totalExcess_1 : decode (mC m_MO_totalExcess) 1 = .ok (.iload_n 1, 1) := by decide +kernel
theorem d_MO_totalExcess_2 : decode (mC m_MO_totalExcess) 2 = .ok (.invokevirtual 284, 3) := by decide +kernel
theorem d_MO_totalExcess_5 : decode (mC m_MO_totalExcess) 5 = .ok (.ifCond .eq 5, 3) := by decide +kernel
theorem d_MO_totalExcess_8 : decode (mC m_MO_totalExcess) 8 = .ok (.iconst 0, 1) := by decide +kernel
theorem d_MO_totalExcess_9 : decode (mC m_MO_totalExcess) 9 = .ok (.ireturn, 1) := by decide +kernel
theorem d_MO_totalExcess_10 : decode (mC m_MO_totalExcess) 10 = .ok (.aload_n 0, 1) := by decide +kernel
theorem d_MO_totalExcess_11 : decode (mC m_MO_totalExcess) 11 = .ok (.iload_n 1, 1) := by decide +kernel
theorem d_MO_totalExcess_12 : decode (mC m_MO_totalExcess) 12 = .ok (.invokevirtual 83, 3) := by decide +kernel
theorem d_MO_totalExcess_15 : decode (mC m_MO_totalExcess) 15 = .ok (.ireturn, 1) := by decide +kernel
theorem d_MO_isTrue_0 : decode (mC m_MO_isTrue) 0 = .ok (.aload_n 0, 1) := by decide +kernel
theorem d_MO_isTrue_1 : decode (mC m_MO_isTrue) 1 = .ok (.iload_n 1, 1) := by decide +kernel
theorem d_MO_isTrue_2 : decode (mC m_MO_isTrue) 2 = .ok (.invokevirtual 284, 3) := by decide +kernel
theorem d_MO_isTrue_5 : decode (mC m_MO_isTrue) 5 = .ok (.ifCond .eq 5, 3) := by decide +kernel
theorem d_MO_isTrue_8 : decode (mC m_MO_isTrue) 8 = .ok (.iconst 0, 1) := by decide +kernel
theorem d_MO_isTrue_9 : decode (mC m_MO_isTrue) 9 = .ok (.ireturn, 1) := by decide +kernel
theorem d_MO_isTrue_10 : decode (mC m_MO_isTrue) 10 = .ok (.aload_n 0, 1) := by decide +kernel
theorem d_MO_isTrue_11 : decode (mC m_MO_isTrue) 11 = .ok (.iload_n 1, 1) := by decide +kernel
theorem d_MO_isTrue_12 : decode (mC m_MO_isTrue) 12 = .ok (.invokevirtual 99, 3) := by decide +kernel
theorem d_MO_isTrue_15 : decode (mC m_MO_isTrue) 15 = .ok (.ireturn, 1) := by decide +kernel
theorem d_MO_worstWeight_0 : decode (mC m_MO_worstWeight) 0 = .ok (.aload_n 0, 1) := by decide +kernel
theorem d_MO_worstWeight_1 : decode (mC m_MO_worstWeight) 1 = .ok (.iload_n 1, 1) := by decide +kernel
theorem d_MO_worstWeight_2 : decode (mC m_MO_worstWeight) 2 = .ok (.invokevirtual 284, 3) := by decide +kernel
theorem d_MO_worstWeight_5 : decode (mC m_MO_worstWeight) 5 = .ok (.ifCond .eq 5, 3) := by decide +kernel
theorem d_MO_worstWeight_8 : decode (mC m_MO_worstWeight) 8 = .ok (.iconst 0, 1) := by decide +kernel
theorem d_MO_worstWeight_9 : decode (mC m_MO_worstWeight) 9 = .ok (.ireturn, 1) := by decide +kernel
theorem d_MO_worstWeight_10 : decode (mC m_MO_worstWeight) 10 = .ok (.iconst 0, 1) := by decide +kernel
theorem d_MO_worstWeight_11 : decode (mC m_MO_worstWeight) 11 = .ok (.istore_n 2, 1) := by decide +kernel
theorem d_MO_worstWeight_12 : decode (mC m_MO_worstWeight) 12 = .ok (.iconst 1, 1) := by decide +kernel
theorem d_MO_worstWeight_13 : decode (mC m_MO_worstWeight) 13 = .ok (.istore_n 3, 1) := by decide +kernel
theorem d_MO_worstWeight_14 : decode (mC m_MO_worstWeight) 14 = .ok (.iload_n 3, 1) := by decide +kernel
theorem d_MO_worstWeight_15 : decode (mC m_MO_worstWeight) 15 = .ok (.aload_n 0, 1) := by decide +kernel
theorem d_MO_worstWeight_16 : decode (mC m_MO_worstWeight) 16 = .ok (.getfield 7, 3) := by decide +kernel
theorem d_MO_worstWeight_19 : decode (mC m_MO_worstWeight) 19 = .ok (.bipush 7, 2) := by decide +kernel
theorem d_MO_worstWeight_21 : decode (mC m_MO_worstWeight) 21 = .ok (.iaload, 1) := by decide +kernel
theorem d_MO_worstWeight_22 : decode (mC m_MO_worstWeight) 22 = .ok (.if_icmp .ge 42, 3) := by decide +kernel
theorem d_MO_worstWeight_25 : decode (mC m_MO_worstWeight) 25 = .ok (.aload_n 0, 1) := by decide +kernel
theorem d_MO_worstWeight_26 : decode (mC m_MO_worstWeight) 26 = .ok (.iload_n 1, 1) := by decide +kernel
theorem d_MO_worstWeight_27 : decode (mC m_MO_worstWeight) 27 = .ok (.aload_n 0, 1) := by decide +kernel
theorem d_MO_worstWeight_28 : decode (mC m_MO_worstWeight) 28 = .ok (.getfield 7, 3) := by decide +kernel
theorem d_MO_worstWeight_31 : decode (mC m_MO_worstWeight) 31 = .ok (.bipush 14, 2) := by decide +kernel
theorem d_MO_worstWeight_33 : decode (mC m_MO_worstWeight) 33 = .ok (.iload_n 3, 1) := by decide +kernel
theorem d_MO_worstWeight_34 : decode (mC m_MO_worstWeight) 34 = .ok (.iadd, 1) := by decide +kernel
theorem d_MO_worstWeight_35 : decode (mC m_MO_worstWeight) 35 = .ok (.iaload, 1) := by decide +kernel
theorem d_MO_worstWeight_36 : decode (mC m_MO_worstWeight) 36 = .ok (.invokevirtual 80, 3) := by decide +kernel
theorem d_MO_worstWeight_39 : decode (mC m_MO_worstWeight) 39 = .ok (.aload_n 0, 1) := by decide +kernel
theorem d_MO_worstWeight_40 : decode (mC m_MO_worstWeight) 40 = .ok (.iload_n 1, 1) := by decide +kernel
theorem d_MO_worstWeight_41 : decode (mC m_MO_worstWeight) 41 = .ok (.aload_n 0, 1) := by decide +kernel
theorem d_MO_worstWeight_42 : decode (mC m_MO_worstWeight) 42 = .ok (.getfield 7, 3) := by decide +kernel
theorem d_MO_worstWeight_45 : decode (mC m_MO_worstWeight) 45 = .ok (.bipush 14, 2) := by decide +kernel
theorem d_MO_worstWeight_47 : decode (mC m_MO_worstWeight) 47 = .ok (.iload_n 2, 1) := by decide +kernel
theorem d_MO_worstWeight_48 : decode (mC m_MO_worstWeight) 48 = .ok (.iadd, 1) := by decide +kernel
theorem d_MO_worstWeight_49 : decode (mC m_MO_worstWeight) 49 = .ok (.iaload, 1) := by decide +kernel
theorem d_MO_worstWeight_50 : decode (mC m_MO_worstWeight) 50 = .ok (.invokevirtual 80, 3) := by decide +kernel
theorem d_MO_worstWeight_53 : decode (mC m_MO_worstWeight) 53 = .ok (.if_icmp .le 5, 3) := by decide +kernel
theorem d_MO_worstWeight_56 : decode (mC m_MO_worstWeight) 56 = .ok (.iload_n 3, 1) := by decide +kernel
theorem d_MO_worstWeight_57 : decode (mC m_MO_worstWeight) 57 = .ok (.istore_n 2, 1) := by decide +kernel
theorem d_MO_worstWeight_58 : decode (mC m_MO_worstWeight) 58 = .ok (.iinc 3 1, 3) := by decide +kernel
theorem d_MO_worstWeight_61 : decode (mC m_MO_worstWeight) 61 = .ok (.goto (-47), 3) := by decide +kernel
theorem d_MO_worstWeight_64 : decode (mC m_MO_worstWeight) 64 = .ok (.iload_n 2, 1) := by decide +kernel
theorem d_MO_worstWeight_65 : decode (mC m_MO_worstWeight) 65 = .ok (.ireturn, 1) := by decide +kernel
theorem d_MO_stampedUntil_0 : decode (mC m_MO_stampedUntil) 0 = .ok (.aload_n 0, 1) := by decide +kernel
theorem d_MO_stampedUntil_1 : decode (mC m_MO_stampedUntil) 1 = .ok (.iload_n 1, 1) := by decide +kernel
theorem d_MO_stampedUntil_2 : decode (mC m_MO_stampedUntil) 2 = .ok (.invokevirtual 284, 3) := by decide +kernel
theorem d_MO_stampedUntil_5 : decode (mC m_MO_stampedUntil) 5 = .ok (.ifCond .eq 5, 3) := by decide +kernel
theorem d_MO_stampedUntil_8 : decode (mC m_MO_stampedUntil) 8 = .ok (.iconst 0, 1) := by decide +kernel
theorem d_MO_stampedUntil_9 : decode (mC m_MO_stampedUntil) 9 = .ok (.ireturn, 1) := by decide +kernel
theorem d_MO_stampedUntil_10 : decode (mC m_MO_stampedUntil) 10 = .ok (.aload_n 0, 1) := by decide +kernel
theorem d_MO_stampedUntil_11 : decode (mC m_MO_stampedUntil) 11 = .ok (.iload_n 1, 1) := by decide +kernel
theorem d_MO_stampedUntil_12 : decode (mC m_MO_stampedUntil) 12 = .ok (.bipush 11, 2) := by decide +kernel
theorem d_MO_stampedUntil_14 : decode (mC m_MO_stampedUntil) 14 = .ok (.invokevirtual 69, 3) := by decide +kernel
theorem d_MO_stampedUntil_17 : decode (mC m_MO_stampedUntil) 17 = .ok (.ireturn, 1) := by decide +kernel
theorem d_MO_isStamped_0 : decode (mC m_MO_isStamped) 0 = .ok (.aload_n 0, 1) := by decide +kernel
theorem d_MO_isStamped_1 : decode (mC m_MO_isStamped) 1 = .ok (.iload_n 1, 1) := by decide +kernel
theorem d_MO_isStamped_2 : decode (mC m_MO_isStamped) 2 = .ok (.invokevirtual 284, 3) := by decide +kernel
theorem d_MO_isStamped_5 : decode (mC m_MO_isStamped) 5 = .ok (.ifCond .eq 5, 3) := by decide +kernel
theorem d_MO_isStamped_8 : decode (mC m_MO_isStamped) 8 = .ok (.iconst 0, 1) := by decide +kernel
theorem d_MO_isStamped_9 : decode (mC m_MO_isStamped) 9 = .ok (.ireturn, 1) := by decide +kernel
theorem d_MO_isStamped_10 : decode (mC m_MO_isStamped) 10 = .ok (.aload_n 0, 1) := by decide +kernel
theorem d_MO_isStamped_11 : decode (mC m_MO_isStamped) 11 = .ok (.iload_n 1, 1) := by decide +kernel
theorem d_MO_isStamped_12 : decode (mC m_MO_isStamped) 12 = .ok (.invokevirtual 103, 3) := by decide +kernel
theorem d_MO_isStamped_15 : decode (mC m_MO_isStamped) 15 = .ok (.ireturn, 1) := by decide +kernel
theorem d_MO_shopCount_0 : decode (mC m_MO_shopCount) 0 = .ok (.aload_n 0, 1) := by decide +kernel
theorem d_MO_shopCount_1 : decode (mC m_MO_shopCount) 1 = .ok (.iconst 0, 1) := by decide +kernel
theorem d_MO_shopCount_2 : decode (mC m_MO_shopCount) 2 = .ok (.putfield 52, 3) := by decide +kernel
theorem d_MO_shopCount_5 : decode (mC m_MO_shopCount) 5 = .ok (.aload_n 0, 1) := by decide +kernel
theorem d_MO_shopCount_6 : decode (mC m_MO_shopCount) 6 = .ok (.getfield 7, 3) := by decide +kernel
theorem d_MO_shopCount_9 : decode (mC m_MO_shopCount) 9 = .ok (.bipush 8, 2) := by decide +kernel
theorem d_MO_shopCount_11 : decode (mC m_MO_shopCount) 11 = .ok (.iaload, 1) := by decide +kernel
theorem d_MO_shopCount_12 : decode (mC m_MO_shopCount) 12 = .ok (.ireturn, 1) := by decide +kernel
theorem d_MO_openShops_0 : decode (mC m_MO_openShops) 0 = .ok (.aload_n 0, 1) := by decide +kernel
theorem d_MO_openShops_1 : decode (mC m_MO_openShops) 1 = .ok (.iconst 0, 1) := by decide +kernel
theorem d_MO_openShops_2 : decode (mC m_MO_openShops) 2 = .ok (.putfield 52, 3) := by decide +kernel
theorem d_MO_openShops_5 : decode (mC m_MO_openShops) 5 = .ok (.aload_n 0, 1) := by decide +kernel
theorem d_MO_openShops_6 : decode (mC m_MO_openShops) 6 = .ok (.invokevirtual 148, 3) := by decide +kernel
theorem d_MO_openShops_9 : decode (mC m_MO_openShops) 9 = .ok (.ireturn, 1) := by decide +kernel
theorem d_MO_isOpen_0 : decode (mC m_MO_isOpen) 0 = .ok (.aload_n 0, 1) := by decide +kernel
theorem d_MO_isOpen_1 : decode (mC m_MO_isOpen) 1 = .ok (.iload_n 1, 1) := by decide +kernel
theorem d_MO_isOpen_2 : decode (mC m_MO_isOpen) 2 = .ok (.invokevirtual 284, 3) := by decide +kernel
theorem d_MO_isOpen_5 : decode (mC m_MO_isOpen) 5 = .ok (.ifCond .eq 5, 3) := by decide +kernel
theorem d_MO_isOpen_8 : decode (mC m_MO_isOpen) 8 = .ok (.iconst 0, 1) := by decide +kernel
theorem d_MO_isOpen_9 : decode (mC m_MO_isOpen) 9 = .ok (.ireturn, 1) := by decide +kernel
theorem d_MO_isOpen_10 : decode (mC m_MO_isOpen) 10 = .ok (.aload_n 0, 1) := by decide +kernel
theorem d_MO_isOpen_11 : decode (mC m_MO_isOpen) 11 = .ok (.iload_n 1, 1) := by decide +kernel
theorem d_MO_isOpen_12 : decode (mC m_MO_isOpen) 12 = .ok (.invokevirtual 115, 3) := by decide +kernel
theorem d_MO_isOpen_15 : decode (mC m_MO_isOpen) 15 = .ok (.ireturn, 1) := by decide +kernel
theorem d_MO_purse_0 : decode (mC m_MO_purse) 0 = .ok (.aload_n 0, 1) := by decide +kernel
theorem d_MO_purse_1 : decode (mC m_MO_purse) 1 = .ok (.iload_n 1, 1) := by decide +kernel
theorem d_MO_purse_2 : decode (mC m_MO_purse) 2 = .ok (.invokevirtual 284, 3) := by decide +kernel
theorem d_MO_purse_5 : decode (mC m_MO_purse) 5 = .ok (.ifCond .eq 5, 3) := by decide +kernel
theorem d_MO_purse_8 : decode (mC m_MO_purse) 8 = .ok (.iconst 0, 1) := by decide +kernel
theorem d_MO_purse_9 : decode (mC m_MO_purse) 9 = .ok (.ireturn, 1) := by decide +kernel
theorem d_MO_purse_10 : decode (mC m_MO_purse) 10 = .ok (.aload_n 0, 1) := by decide +kernel
theorem d_MO_purse_11 : decode (mC m_MO_purse) 11 = .ok (.iload_n 1, 1) := by decide +kernel
theorem d_MO_purse_12 : decode (mC m_MO_purse) 12 = .ok (.iconst 0, 1) := by decide +kernel
theorem d_MO_purse_13 : decode (mC m_MO_purse) 13 = .ok (.invokevirtual 69, 3) := by decide +kernel
theorem d_MO_purse_16 : decode (mC m_MO_purse) 16 = .ok (.ireturn, 1) := by decide +kernel
theorem d_MO_thumb_0 : decode (mC m_MO_thumb) 0 = .ok (.aload_n 0, 1) := by decide +kernel
theorem d_MO_thumb_1 : decode (mC m_MO_thumb) 1 = .ok (.iload_n 1, 1) := by decide +kernel
theorem d_MO_thumb_2 : decode (mC m_MO_thumb) 2 = .ok (.invokevirtual 284, 3) := by decide +kernel
theorem d_MO_thumb_5 : decode (mC m_MO_thumb) 5 = .ok (.ifCond .eq 5, 3) := by decide +kernel
theorem d_MO_thumb_8 : decode (mC m_MO_thumb) 8 = .ok (.iconst 0, 1) := by decide +kernel
theorem d_MO_thumb_9 : decode (mC m_MO_thumb) 9 = .ok (.ireturn, 1) := by decide +kernel
theorem d_MO_thumb_10 : decode (mC m_MO_thumb) 10 = .ok (.aload_n 0, 1) := by decide +kernel
theorem d_MO_thumb_11 : decode (mC m_MO_thumb) 11 = .ok (.iload_n 1, 1) := by decide +kernel
theorem d_MO_thumb_12 : decode (mC m_MO_thumb) 12 = .ok (.bipush 6, 2) := by decide +kernel
theorem d_MO_thumb_14 : decode (mC m_MO_thumb) 14 = .ok (.invokevirtual 69, 3) := by decide +kernel
theorem d_MO_thumb_17 : decode (mC m_MO_thumb) 17 = .ok (.ireturn, 1) := by decide +kernel
theorem d_MO_complaints_0 : decode (mC m_MO_complaints) 0 = .ok (.aload_n 0, 1) := by decide +kernel
theorem d_MO_complaints_1 : decode (mC m_MO_complaints) 1 = .ok (.iload_n 1, 1) := by decide +kernel
theorem d_MO_complaints_2 : decode (mC m_MO_complaints) 2 = .ok (.invokevirtual 284, 3) := by decide +kernel
theorem d_MO_complaints_5 : decode (mC m_MO_complaints) 5 = .ok (.ifCond .eq 5, 3) := by decide +kernel
theorem d_MO_complaints_8 : decode (mC m_MO_complaints) 8 = .ok (.iconst 0, 1) := by decide +kernel
theorem d_MO_complaints_9 : decode (mC m_MO_complaints) 9 = .ok (.ireturn, 1) := by decide +kernel
theorem d_MO_complaints_10 : decode (mC m_MO_complaints) 10 = .ok (.aload_n 0, 1) := by decide +kernel
theorem d_MO_complaints_11 : decode (mC m_MO_complaints) 11 = .ok (.iload_n 1, 1) := by decide +kernel
theorem d_MO_complaints_12 : decode (mC m_MO_complaints) 12 = .ok (.bipush 8, 2) := by decide +kernel
theorem d_MO_complaints_14 : decode (mC m_MO_complaints) 14 = .ok (.invokevirtual 69, 3) := by decide +kernel
theorem d_MO_complaints_17 : decode (mC m_MO_complaints) 17 = .ok (.ireturn, 1) := by decide +kernel
theorem d_MO_failures_0 : decode (mC m_MO_failures) 0 = .ok (.aload_n 0, 1) := by decide +kernel
theorem d_MO_failures_1 : decode (mC m_MO_failures) 1 = .ok (.iload_n 1, 1) := by decide +kernel
theorem d_MO_failures_2 : decode (mC m_MO_failures) 2 = .ok (.invokevirtual 284, 3) := by decide +kernel
theorem d_MO_failures_5 : decode (mC m_MO_failures) 5 = .ok (.ifCond .eq 5, 3) := by decide +kernel
theorem d_MO_failures_8 : decode (mC m_MO_failures) 8 = .ok (.iconst 0, 1) := by decide +kernel
theorem d_MO_failures_9 : decode (mC m_MO_failures) 9 = .ok (.ireturn, 1) := by decide +kernel
theorem d_MO_failures_10 : decode (mC m_MO_failures) 10 = .ok (.aload_n 0, 1) := by decide +kernel
theorem d_MO_failures_11 : decode (mC m_MO_failures) 11 = .ok (.iload_n 1, 1) := by decide +kernel
theorem d_MO_failures_12 : decode (mC m_MO_failures) 12 = .ok (.bipush 9, 2) := by decide +kernel
theorem d_MO_failures_14 : decode (mC m_MO_failures) 14 = .ok (.invokevirtual 69, 3) := by decide +kernel
theorem d_MO_failures_17 : decode (mC m_MO_failures) 17 = .ok (.ireturn, 1) := by decide +kernel
theorem d_MO_latestVisit_0 : decode (mC m_MO_latestVisit) 0 = .ok (.aload_n 0, 1) := by decide +kernel
theorem d_MO_latestVisit_1 : decode (mC m_MO_latestVisit) 1 = .ok (.iload_n 1, 1) := by decide +kernel
theorem d_MO_latestVisit_2 : decode (mC m_MO_latestVisit) 2 = .ok (.invokevirtual 284, 3) := by decide +kernel
theorem d_MO_latestVisit_5 : decode (mC m_MO_latestVisit) 5 = .ok (.ifCond .eq 5, 3) := by decide +kernel
theorem d_MO_latestVisit_8 : decode (mC m_MO_latestVisit) 8 = .ok (.iconst 0, 1) := by decide +kernel
theorem d_MO_latestVisit_9 : decode (mC m_MO_latestVisit) 9 = .ok (.ireturn, 1) := by decide +kernel
theorem d_MO_latestVisit_10 : decode (mC m_MO_latestVisit) 10 = .ok (.aload_n 0, 1) := by decide +kernel
theorem d_MO_latestVisit_11 : decode (mC m_MO_latestVisit) 11 = .ok (.iload_n 1, 1) := by decide +kernel
theorem d_MO_latestVisit_12 : decode (mC m_MO_latestVisit) 12 = .ok (.bipush 10, 2) := by decide +kernel
theorem d_MO_latestVisit_14 : decode (mC m_MO_latestVisit) 14 = .ok (.invokevirtual 69, 3) := by decide +kernel
theorem d_MO_latestVisit_17 : decode (mC m_MO_latestVisit) 17 = .ok (.ireturn, 1) := by decide +kernel
theorem d_MO_finesOf_0 : decode (mC m_MO_finesOf) 0 = .ok (.aload_n 0, 1) := by decide +kernel
theorem d_MO_finesOf_1 : decode (mC m_MO_finesOf) 1 = .ok (.iload_n 1, 1) := by decide +kernel
theorem d_MO_finesOf_2 : decode (mC m_MO_finesOf) 2 = .ok (.invokevirtual 284, 3) := by decide +kernel
theorem d_MO_finesOf_5 : decode (mC m_MO_finesOf) 5 = .ok (.ifCond .eq 5, 3) := by decide +kernel
theorem d_MO_finesOf_8 : decode (mC m_MO_finesOf) 8 = .ok (.iconst 0, 1) := by decide +kernel
theorem d_MO_finesOf_9 : decode (mC m_MO_finesOf) 9 = .ok (.ireturn, 1) := by decide +kernel
theorem d_MO_finesOf_10 : decode (mC m_MO_finesOf) 10 = .ok (.aload_n 0, 1) := by decide +kernel
theorem d_MO_finesOf_11 : decode (mC m_MO_finesOf) 11 = .ok (.iload_n 1, 1) := by decide +kernel
theorem d_MO_finesOf_12 : decode (mC m_MO_finesOf) 12 = .ok (.bipush 13, 2) := by decide +kernel
theorem d_MO_finesOf_14 : decode (mC m_MO_finesOf) 14 = .ok (.invokevirtual 69, 3) := by decide +kernel
theorem d_MO_finesOf_17 : decode (mC m_MO_finesOf) 17 = .ok (.ireturn, 1) := by decide +kernel
theorem d_MO_gainsOf_0 : decode (mC m_MO_gainsOf) 0 = .ok (.aload_n 0, 1) := by decide +kernel
theorem d_MO_gainsOf_1 : decode (mC m_MO_gainsOf) 1 = .ok (.iload_n 1, 1) := by decide +kernel
theorem d_MO_gainsOf_2 : decode (mC m_MO_gainsOf) 2 = .ok (.invokevirtual 284, 3) := by decide +kernel
theorem d_MO_gainsOf_5 : decode (mC m_MO_gainsOf) 5 = .ok (.ifCond .eq 5, 3) := by decide +kernel
theorem d_MO_gainsOf_8 : decode (mC m_MO_gainsOf) 8 = .ok (.iconst 0, 1) := by decide +kernel
theorem d_MO_gainsOf_9 : decode (mC m_MO_gainsOf) 9 = .ok (.ireturn, 1) := by decide +kernel
theorem d_MO_gainsOf_10 : decode (mC m_MO_gainsOf) 10 = .ok (.aload_n 0, 1) := by decide +kernel
theorem d_MO_gainsOf_11 : decode (mC m_MO_gainsOf) 11 = .ok (.iload_n 1, 1) := by decide +kernel
theorem d_MO_gainsOf_12 : decode (mC m_MO_gainsOf) 12 = .ok (.bipush 14, 2) := by decide +kernel
theorem d_MO_gainsOf_14 : decode (mC m_MO_gainsOf) 14 = .ok (.invokevirtual 69, 3) := by decide +kernel
theorem d_MO_gainsOf_17 : decode (mC m_MO_gainsOf) 17 = .ok (.ireturn, 1) := by decide +kernel
theorem d_MO_shopAtRank_0 : decode (mC m_MO_shopAtRank) 0 = .ok (.aload_n 0, 1) := by decide +kernel
theorem d_MO_shopAtRank_1 : decode (mC m_MO_shopAtRank) 1 = .ok (.iconst 0, 1) := by decide +kernel
theorem d_MO_shopAtRank_2 : decode (mC m_MO_shopAtRank) 2 = .ok (.putfield 52, 3) := by decide +kernel
theorem d_MO_shopAtRank_5 : decode (mC m_MO_shopAtRank) 5 = .ok (.iconst 0, 1) := by decide +kernel
theorem d_MO_shopAtRank_6 : decode (mC m_MO_shopAtRank) 6 = .ok (.istore_n 2, 1) := by decide +kernel
theorem d_MO_shopAtRank_7 : decode (mC m_MO_shopAtRank) 7 = .ok (.iload_n 2, 1) := by decide +kernel
theorem d_MO_shopAtRank_8 : decode (mC m_MO_shopAtRank) 8 = .ok (.aload_n 0, 1) := by decide +kernel
theorem d_MO_shopAtRank_9 : decode (mC m_MO_shopAtRank) 9 = .ok (.getfield 7, 3) := by decide +kernel
theorem d_MO_shopAtRank_12 : decode (mC m_MO_shopAtRank) 12 = .ok (.bipush 8, 2) := by decide +kernel
theorem d_MO_shopAtRank_14 : decode (mC m_MO_shopAtRank) 14 = .ok (.iaload, 1) := by decide +kernel
theorem d_MO_shopAtRank_15 : decode (mC m_MO_shopAtRank) 15 = .ok (.if_icmp .ge 20, 3) := by decide +kernel
theorem d_MO_shopAtRank_18 : decode (mC m_MO_shopAtRank) 18 = .ok (.aload_n 0, 1) := by decide +kernel
theorem d_MO_shopAtRank_19 : decode (mC m_MO_shopAtRank) 19 = .ok (.iload_n 2, 1) := by decide +kernel
theorem d_MO_shopAtRank_20 : decode (mC m_MO_shopAtRank) 20 = .ok (.invokevirtual 293, 3) := by decide +kernel
theorem d_MO_shopAtRank_23 : decode (mC m_MO_shopAtRank) 23 = .ok (.iload_n 1, 1) := by decide +kernel
theorem d_MO_shopAtRank_24 : decode (mC m_MO_shopAtRank) 24 = .ok (.if_icmp .ne 5, 3) := by decide +kernel
theorem d_MO_shopAtRank_27 : decode (mC m_MO_shopAtRank) 27 = .ok (.iload_n 2, 1) := by decide +kernel
theorem d_MO_shopAtRank_28 : decode (mC m_MO_shopAtRank) 28 = .ok (.ireturn, 1) := by decide +kernel
theorem d_MO_shopAtRank_29 : decode (mC m_MO_shopAtRank) 29 = .ok (.iinc 2 1, 3) := by decide +kernel
theorem d_MO_shopAtRank_32 : decode (mC m_MO_shopAtRank) 32 = .ok (.goto (-25), 3) := by decide +kernel
theorem d_MO_shopAtRank_35 : decode (mC m_MO_shopAtRank) 35 = .ok (.iconst (-1), 1) := by decide +kernel
theorem d_MO_shopAtRank_36 : decode (mC m_MO_shopAtRank) 36 = .ok (.ireturn, 1) := by decide +kernel
theorem d_MO_usesThumb_0 : decode (mC m_MO_usesThumb) 0 = .ok (.aload_n 0, 1) := by decide +kernel
theorem d_MO_usesThumb_1 : decode (mC m_MO_usesThumb) 1 = .ok (.iload_n 1, 1) := by decide +kernel
theorem d_MO_usesThumb_2 : decode (mC m_MO_usesThumb) 2 = .ok (.invokevirtual 284, 3) := by decide +kernel
theorem d_MO_usesThumb_5 : decode (mC m_MO_usesThumb) 5 = .ok (.ifCond .eq 5, 3) := by decide +kernel
theorem d_MO_usesThumb_8 : decode (mC m_MO_usesThumb) 8 = .ok (.iconst 0, 1) := by decide +kernel
theorem d_MO_usesThumb_9 : decode (mC m_MO_usesThumb) 9 = .ok (.ireturn, 1) := by decide +kernel
theorem d_MO_usesThumb_10 : decode (mC m_MO_usesThumb) 10 = .ok (.aload_n 0, 1) := by decide +kernel
theorem d_MO_usesThumb_11 : decode (mC m_MO_usesThumb) 11 = .ok (.iload_n 1, 1) := by decide +kernel
theorem d_MO_usesThumb_12 : decode (mC m_MO_usesThumb) 12 = .ok (.aload_n 0, 1) := by decide +kernel
theorem d_MO_usesThumb_13 : decode (mC m_MO_usesThumb) 13 = .ok (.getfield 7, 3) := by decide +kernel
theorem d_MO_usesThumb_16 : decode (mC m_MO_usesThumb) 16 = .ok (.bipush 9, 2) := by decide +kernel
theorem d_MO_usesThumb_18 : decode (mC m_MO_usesThumb) 18 = .ok (.iaload, 1) := by decide +kernel
theorem d_MO_usesThumb_19 : decode (mC m_MO_usesThumb) 19 = .ok (.iconst 1, 1) := by decide +kernel
theorem d_MO_usesThumb_20 : decode (mC m_MO_usesThumb) 20 = .ok (.iadd, 1) := by decide +kernel
theorem d_MO_usesThumb_21 : decode (mC m_MO_usesThumb) 21 = .ok (.invokevirtual 86, 3) := by decide +kernel
theorem d_MO_usesThumb_24 : decode (mC m_MO_usesThumb) 24 = .ok (.ireturn, 1) := by decide +kernel
theorem d_MO_fineIfVisited_0 : decode (mC m_MO_fineIfVisited) 0 = .ok (.aload_n 0, 1) := by decide +kernel
theorem d_MO_fineIfVisited_1 : decode (mC m_MO_fineIfVisited) 1 = .ok (.iload_n 1, 1) := by decide +kernel
theorem d_MO_fineIfVisited_2 : decode (mC m_MO_fineIfVisited) 2 = .ok (.invokevirtual 284, 3) := by decide +kernel
theorem d_MO_fineIfVisited_5 : decode (mC m_MO_fineIfVisited) 5 = .ok (.ifCond .eq 5, 3) := by decide +kernel
theorem d_MO_fineIfVisited_8 : decode (mC m_MO_fineIfVisited) 8 = .ok (.iconst 0, 1) := by decide +kernel
theorem d_MO_fineIfVisited_9 : decode (mC m_MO_fineIfVisited) 9 = .ok (.ireturn, 1) := by decide +kernel
theorem d_MO_fineIfVisited_10 : decode (mC m_MO_fineIfVisited) 10 = .ok (.aload_n 0, 1) := by decide +kernel
theorem d_MO_fineIfVisited_11 : decode (mC m_MO_fineIfVisited) 11 = .ok (.iload_n 1, 1) := by decide +kernel
theorem d_MO_fineIfVisited_12 : decode (mC m_MO_fineIfVisited) 12 = .ok (.invokevirtual 112, 3) := by decide +kernel
theorem d_MO_fineIfVisited_15 : decode (mC m_MO_fineIfVisited) 15 = .ok (.ireturn, 1) := by decide +kernel
theorem d_MO_whyFail_0 : decode (mC m_MO_whyFail) 0 = .ok (.aload_n 0, 1) := by decide +kernel
theorem d_MO_whyFail_1 : decode (mC m_MO_whyFail) 1 = .ok (.iload_n 1, 1) := by decide +kernel
theorem d_MO_whyFail_2 : decode (mC m_MO_whyFail) 2 = .ok (.invokevirtual 284, 3) := by decide +kernel
theorem d_MO_whyFail_5 : decode (mC m_MO_whyFail) 5 = .ok (.ifCond .eq 5, 3) := by decide +kernel
theorem d_MO_whyFail_8 : decode (mC m_MO_whyFail) 8 = .ok (.iconst 0, 1) := by decide +kernel
theorem d_MO_whyFail_9 : decode (mC m_MO_whyFail) 9 = .ok (.ireturn, 1) := by decide +kernel
theorem d_MO_whyFail_10 : decode (mC m_MO_whyFail) 10 = .ok (.aload_n 0, 1) := by decide +kernel
theorem d_MO_whyFail_11 : decode (mC m_MO_whyFail) 11 = .ok (.iload_n 1, 1) := by decide +kernel
theorem d_MO_whyFail_12 : decode (mC m_MO_whyFail) 12 = .ok (.invokevirtual 106, 3) := by decide +kernel
theorem d_MO_whyFail_15 : decode (mC m_MO_whyFail) 15 = .ok (.ireturn, 1) := by decide +kernel
theorem d_MO_nextGain_0 : decode (mC m_MO_nextGain) 0 = .ok (.aload_n 0, 1) := by decide +kernel
theorem d_MO_nextGain_1 : decode (mC m_MO_nextGain) 1 = .ok (.iload_n 1, 1) := by decide +kernel
theorem d_MO_nextGain_2 : decode (mC m_MO_nextGain) 2 = .ok (.invokevirtual 284, 3) := by decide +kernel
theorem d_MO_nextGain_5 : decode (mC m_MO_nextGain) 5 = .ok (.ifCond .eq 5, 3) := by decide +kernel
theorem d_MO_nextGain_8 : decode (mC m_MO_nextGain) 8 = .ok (.iconst 0, 1) := by decide +kernel
theorem d_MO_nextGain_9 : decode (mC m_MO_nextGain) 9 = .ok (.ireturn, 1) := by decide +kernel
theorem d_MO_nextGain_10 : decode (mC m_MO_nextGain) 10 = .ok (.aload_n 0, 1) := by decide +kernel
theorem d_MO_nextGain_11 : decode (mC m_MO_nextGain) 11 = .ok (.iload_n 1, 1) := by decide +kernel
theorem d_MO_nextGain_12 : decode (mC m_MO_nextGain) 12 = .ok (.invokevirtual 115, 3) := by decide +kernel
theorem d_MO_nextGain_15 : decode (mC m_MO_nextGain) 15 = .ok (.ifCond .ne 5, 3) := by decide +kernel
theorem d_MO_nextGain_18 : decode (mC m_MO_nextGain) 18 = .ok (.iconst 0, 1) := by decide +kernel
theorem d_MO_nextGain_19 : decode (mC m_MO_nextGain) 19 = .ok (.ireturn, 1) := by decide +kernel
theorem d_MO_nextGain_20 : decode (mC m_MO_nextGain) 20 = .ok (.aload_n 0, 1) := by decide +kernel
theorem d_MO_nextGain_21 : decode (mC m_MO_nextGain) 21 = .ok (.iconst 0, 1) := by decide +kernel
theorem d_MO_nextGain_22 : decode (mC m_MO_nextGain) 22 = .ok (.bipush 12, 2) := by decide +kernel
theorem d_MO_nextGain_24 : decode (mC m_MO_nextGain) 24 = .ok (.invokevirtual 61, 3) := by decide +kernel
theorem d_MO_nextGain_27 : decode (mC m_MO_nextGain) 27 = .ok (.aload_n 0, 1) := by decide +kernel
theorem d_MO_nextGain_28 : decode (mC m_MO_nextGain) 28 = .ok (.getfield 7, 3) := by decide +kernel
theorem d_MO_nextGain_31 : decode (mC m_MO_nextGain) 31 = .ok (.bipush 9, 2) := by decide +kernel
theorem d_MO_nextGain_33 : decode (mC m_MO_nextGain) 33 = .ok (.dup2, 1) := by decide +kernel
theorem d_MO_nextGain_34 : decode (mC m_MO_nextGain) 34 = .ok (.iaload, 1) := by decide +kernel
theorem d_MO_nextGain_35 : decode (mC m_MO_nextGain) 35 = .ok (.iconst 1, 1) := by decide +kernel
theorem d_MO_nextGain_36 : decode (mC m_MO_nextGain) 36 = .ok (.iadd, 1) := by decide +kernel
theorem d_MO_nextGain_37 : decode (mC m_MO_nextGain) 37 = .ok (.iastore, 1) := by decide +kernel
theorem d_MO_nextGain_38 : decode (mC m_MO_nextGain) 38 = .ok (.aload_n 0, 1) := by decide +kernel
theorem d_MO_nextGain_39 : decode (mC m_MO_nextGain) 39 = .ok (.iload_n 1, 1) := by decide +kernel
theorem d_MO_nextGain_40 : decode (mC m_MO_nextGain) 40 = .ok (.invokevirtual 130, 3) := by decide +kernel
theorem d_MO_nextGain_43 : decode (mC m_MO_nextGain) 43 = .ok (.aload_n 0, 1) := by decide +kernel
theorem d_MO_nextGain_44 : decode (mC m_MO_nextGain) 44 = .ok (.aload_n 0, 1) := by decide +kernel
theorem d_MO_nextGain_45 : decode (mC m_MO_nextGain) 45 = .ok (.iload_n 1, 1) := by decide +kernel
theorem d_MO_nextGain_46 : decode (mC m_MO_nextGain) 46 = .ok (.invokevirtual 93, 3) := by decide +kernel
theorem d_MO_nextGain_49 : decode (mC m_MO_nextGain) 49 = .ok (.invokevirtual 296, 3) := by decide +kernel
theorem d_MO_nextGain_52 : decode (mC m_MO_nextGain) 52 = .ok (.ireturn, 1) := by decide +kernel
theorem d_MO_nextVisited_0 : decode (mC m_MO_nextVisited) 0 = .ok (.aload_n 0, 1) := by decide +kernel
theorem d_MO_nextVisited_1 : decode (mC m_MO_nextVisited) 1 = .ok (.iconst 0, 1) := by decide +kernel
theorem d_MO_nextVisited_2 : decode (mC m_MO_nextVisited) 2 = .ok (.putfield 52, 3) := by decide +kernel
theorem d_MO_nextVisited_5 : decode (mC m_MO_nextVisited) 5 = .ok (.aload_n 0, 1) := by decide +kernel
theorem d_MO_nextVisited_6 : decode (mC m_MO_nextVisited) 6 = .ok (.getfield 7, 3) := by decide +kernel
theorem d_MO_nextVisited_9 : decode (mC m_MO_nextVisited) 9 = .ok (.iconst 5, 1) := by decide +kernel
theorem d_MO_nextVisited_10 : decode (mC m_MO_nextVisited) 10 = .ok (.iaload, 1) := by decide +kernel
theorem d_MO_nextVisited_11 : decode (mC m_MO_nextVisited) 11 = .ok (.ifCond .ne 5, 3) := by decide +kernel
theorem d_MO_nextVisited_14 : decode (mC m_MO_nextVisited) 14 = .ok (.iconst (-1), 1) := by decide +kernel
theorem d_MO_nextVisited_15 : decode (mC m_MO_nextVisited) 15 = .ok (.ireturn, 1) := by decide +kernel
theorem d_MO_nextVisited_16 : decode (mC m_MO_nextVisited) 16 = .ok (.aload_n 0, 1) := by decide +kernel
theorem d_MO_nextVisited_17 : decode (mC m_MO_nextVisited) 17 = .ok (.iconst 0, 1) := by decide +kernel
theorem d_MO_nextVisited_18 : decode (mC m_MO_nextVisited) 18 = .ok (.bipush 12, 2) := by decide +kernel
theorem d_MO_nextVisited_20 : decode (mC m_MO_nextVisited) 20 = .ok (.invokevirtual 61, 3) := by decide +kernel
theorem d_MO_nextVisited_23 : decode (mC m_MO_nextVisited) 23 = .ok (.aload_n 0, 1) := by decide +kernel
theorem d_MO_nextVisited_24 : decode (mC m_MO_nextVisited) 24 = .ok (.invokevirtual 136, 3) := by decide +kernel
theorem d_MO_nextVisited_27 : decode (mC m_MO_nextVisited) 27 = .ok (.aload_n 0, 1) := by decide +kernel
theorem d_MO_nextVisited_28 : decode (mC m_MO_nextVisited) 28 = .ok (.aload_n 0, 1) := by decide +kernel
theorem d_MO_nextVisited_29 : decode (mC m_MO_nextVisited) 29 = .ok (.invokevirtual 139, 3) := by decide +kernel
theorem d_MO_nextVisited_32 : decode (mC m_MO_nextVisited) 32 = .ok (.invokevirtual 296, 3) := by decide +kernel
theorem d_MO_nextVisited_35 : decode (mC m_MO_nextVisited) 35 = .ok (.ireturn, 1) := by decide +kernel
theorem d_MO_daysUntilFalse_0 : decode (mC m_MO_daysUntilFalse) 0 = .ok (.aload_n 0, 1) := by decide +kernel
theorem d_MO_daysUntilFalse_1 : decode (mC m_MO_daysUntilFalse) 1 = .ok (.iload_n 1, 1) := by decide +kernel
theorem d_MO_daysUntilFalse_2 : decode (mC m_MO_daysUntilFalse) 2 = .ok (.invokevirtual 284, 3) := by decide +kernel
theorem d_MO_daysUntilFalse_5 : decode (mC m_MO_daysUntilFalse) 5 = .ok (.ifCond .eq 5, 3) := by decide +kernel
theorem d_MO_daysUntilFalse_8 : decode (mC m_MO_daysUntilFalse) 8 = .ok (.iconst 0, 1) := by decide +kernel
theorem d_MO_daysUntilFalse_9 : decode (mC m_MO_daysUntilFalse) 9 = .ok (.ireturn, 1) := by decide +kernel
theorem d_MO_daysUntilFalse_10 : decode (mC m_MO_daysUntilFalse) 10 = .ok (.aload_n 0, 1) := by decide +kernel
theorem d_MO_daysUntilFalse_11 : decode (mC m_MO_daysUntilFalse) 11 = .ok (.iconst 0, 1) := by decide +kernel
theorem d_MO_daysUntilFalse_12 : decode (mC m_MO_daysUntilFalse) 12 = .ok (.bipush 12, 2) := by decide +kernel
theorem d_MO_daysUntilFalse_14 : decode (mC m_MO_daysUntilFalse) 14 = .ok (.invokevirtual 61, 3) := by decide +kernel
theorem d_MO_daysUntilFalse_17 : decode (mC m_MO_daysUntilFalse) 17 = .ok (.iconst 0, 1) := by decide +kernel
theorem d_MO_daysUntilFalse_18 : decode (mC m_MO_daysUntilFalse) 18 = .ok (.istore_n 2, 1) := by decide +kernel
theorem d_MO_daysUntilFalse_19 : decode (mC m_MO_daysUntilFalse) 19 = .ok (.aload_n 0, 1) := by decide +kernel
theorem d_MO_daysUntilFalse_20 : decode (mC m_MO_daysUntilFalse) 20 = .ok (.iload_n 1, 1) := by decide +kernel
theorem d_MO_daysUntilFalse_21 : decode (mC m_MO_daysUntilFalse) 21 = .ok (.invokevirtual 99, 3) := by decide +kernel
theorem d_MO_daysUntilFalse_24 : decode (mC m_MO_daysUntilFalse) 24 = .ok (.ifCond .eq 21, 3) := by decide +kernel
theorem d_MO_daysUntilFalse_27 : decode (mC m_MO_daysUntilFalse) 27 = .ok (.iload_n 2, 1) := by decide +kernel
theorem d_MO_daysUntilFalse_28 : decode (mC m_MO_daysUntilFalse) 28 = .ok (.sipush 1000, 3) := by decide +kernel
theorem d_MO_daysUntilFalse_31 : decode (mC m_MO_daysUntilFalse) 31 = .ok (.if_icmp .ge 14, 3) := by decide +kernel
theorem d_MO_daysUntilFalse_34 : decode (mC m_MO_daysUntilFalse) 34 = .ok (.aload_n 0, 1) := by decide +kernel
theorem d_MO_daysUntilFalse_35 : decode (mC m_MO_daysUntilFalse) 35 = .ok (.iload_n 1, 1) := by decide +kernel
theorem d_MO_daysUntilFalse_36 : decode (mC m_MO_daysUntilFalse) 36 = .ok (.invokevirtual 130, 3) := by decide +kernel
theorem d_MO_daysUntilFalse_39 : decode (mC m_MO_daysUntilFalse) 39 = .ok (.iinc 2 1, 3) := by decide +kernel
theorem d_MO_daysUntilFalse_42 : decode (mC m_MO_daysUntilFalse) 42 = .ok (.goto (-23), 3) := by decide +kernel
theorem d_MO_daysUntilFalse_45 : decode (mC m_MO_daysUntilFalse) 45 = .ok (.aload_n 0, 1) := by decide +kernel
theorem d_MO_daysUntilFalse_46 : decode (mC m_MO_daysUntilFalse) 46 = .ok (.aload_n 0, 1) := by decide +kernel
theorem d_MO_daysUntilFalse_47 : decode (mC m_MO_daysUntilFalse) 47 = .ok (.iload_n 1, 1) := by decide +kernel
theorem d_MO_daysUntilFalse_48 : decode (mC m_MO_daysUntilFalse) 48 = .ok (.invokevirtual 99, 3) := by decide +kernel
theorem d_MO_daysUntilFalse_51 : decode (mC m_MO_daysUntilFalse) 51 = .ok (.ifCond .eq 7, 3) := by decide +kernel
theorem d_MO_daysUntilFalse_54 : decode (mC m_MO_daysUntilFalse) 54 = .ok (.iconst (-1), 1) := by decide +kernel
theorem d_MO_daysUntilFalse_55 : decode (mC m_MO_daysUntilFalse) 55 = .ok (.goto 4, 3) := by decide +kernel
theorem d_MO_daysUntilFalse_58 : decode (mC m_MO_daysUntilFalse) 58 = .ok (.iload_n 2, 1) := by decide +kernel
theorem d_MO_daysUntilFalse_59 : decode (mC m_MO_daysUntilFalse) 59 = .ok (.invokevirtual 296, 3) := by decide +kernel
theorem d_MO_daysUntilFalse_62 : decode (mC m_MO_daysUntilFalse) 62 = .ok (.ireturn, 1) := by decide +kernel
theorem d_MO_purseAfter_0 : decode (mC m_MO_purseAfter) 0 = .ok (.aload_n 0, 1) := by decide +kernel
theorem d_MO_purseAfter_1 : decode (mC m_MO_purseAfter) 1 = .ok (.iload_n 1, 1) := by decide +kernel
theorem d_MO_purseAfter_2 : decode (mC m_MO_purseAfter) 2 = .ok (.invokevirtual 284, 3) := by decide +kernel
theorem d_MO_purseAfter_5 : decode (mC m_MO_purseAfter) 5 = .ok (.ifCond .ne 27, 3) := by decide +kernel
theorem d_MO_purseAfter_8 : decode (mC m_MO_purseAfter) 8 = .ok (.aload_n 0, 1) := by decide +kernel
theorem d_MO_purseAfter_9 : decode (mC m_MO_purseAfter) 9 = .ok (.iload_n 2, 1) := by decide +kernel
theorem d_MO_purseAfter_10 : decode (mC m_MO_purseAfter) 10 = .ok (.iconst 0, 1) := by decide +kernel
theorem d_MO_purseAfter_11 : decode (mC m_MO_purseAfter) 11 = .ok (.sipush 200, 3) := by decide +kernel
theorem d_MO_purseAfter_14 : decode (mC m_MO_purseAfter) 14 = .ok (.invokestatic 161, 3) := by decide +kernel
theorem d_MO_purseAfter_17 : decode (mC m_MO_purseAfter) 17 = .ok (.ifCond .ne 7, 3) := by decide +kernel
theorem d_MO_purseAfter_20 : decode (mC m_MO_purseAfter) 20 = .ok (.iconst 1, 1) := by decide +kernel
theorem d_MO_purseAfter_21 : decode (mC m_MO_purseAfter) 21 = .ok (.goto 4, 3) := by decide +kernel
theorem d_MO_purseAfter_24 : decode (mC m_MO_purseAfter) 24 = .ok (.iconst 0, 1) := by decide +kernel
theorem d_MO_purseAfter_25 : decode (mC m_MO_purseAfter) 25 = .ok (.iconst 2, 1) := by decide +kernel
theorem d_MO_purseAfter_26 : decode (mC m_MO_purseAfter) 26 = .ok (.invokevirtual 154, 3) := by decide +kernel
theorem d_MO_purseAfter_29 : decode (mC m_MO_purseAfter) 29 = .ok (.ifCond .eq 5, 3) := by decide +kernel
theorem d_MO_purseAfter_32 : decode (mC m_MO_purseAfter) 32 = .ok (.iconst 0, 1) := by decide +kernel
theorem d_MO_purseAfter_33 : decode (mC m_MO_purseAfter) 33 = .ok (.ireturn, 1) := by decide +kernel
theorem d_MO_purseAfter_34 : decode (mC m_MO_purseAfter) 34 = .ok (.aload_n 0, 1) := by decide +kernel
theorem d_MO_purseAfter_35 : decode (mC m_MO_purseAfter) 35 = .ok (.iconst 0, 1) := by decide +kernel
theorem d_MO_purseAfter_36 : decode (mC m_MO_purseAfter) 36 = .ok (.bipush 12, 2) := by decide +kernel
theorem d_MO_purseAfter_38 : decode (mC m_MO_purseAfter) 38 = .ok (.invokevirtual 61, 3) := by decide +kernel
theorem d_MO_purseAfter_41 : decode (mC m_MO_purseAfter) 41 = .ok (.aload_n 0, 1) := by decide +kernel
theorem d_MO_purseAfter_42 : decode (mC m_MO_purseAfter) 42 = .ok (.iload_n 1, 1) := by decide +kernel
theorem d_MO_purseAfter_43 : decode (mC m_MO_purseAfter) 43 = .ok (.iload_n 2, 1) := by decide +kernel
theorem d_MO_purseAfter_44 : decode (mC m_MO_purseAfter) 44 = .ok (.invokevirtual 299, 3) := by decide +kernel
theorem d_MO_purseAfter_47 : decode (mC m_MO_purseAfter) 47 = .ok (.ireturn, 1) := by decide +kernel
theorem d_MO_bestThumb_0 : decode (mC m_MO_bestThumb) 0 = .ok (.aload_n 0, 1) := by decide +kernel
theorem d_MO_bestThumb_1 : decode (mC m_MO_bestThumb) 1 = .ok (.iload_n 1, 1) := by decide +kernel
theorem d_MO_bestThumb_2 : decode (mC m_MO_bestThumb) 2 = .ok (.invokevirtual 284, 3) := by decide +kernel
theorem d_MO_bestThumb_5 : decode (mC m_MO_bestThumb) 5 = .ok (.ifCond .ne 26, 3) := by decide +kernel
theorem d_MO_bestThumb_8 : decode (mC m_MO_bestThumb) 8 = .ok (.aload_n 0, 1) := by decide +kernel
theorem d_MO_bestThumb_9 : decode (mC m_MO_bestThumb) 9 = .ok (.iload_n 2, 1) := by decide +kernel
theorem d_MO_bestThumb_10 : decode (mC m_MO_bestThumb) 10 = .ok (.iconst 1, 1) := by decide +kernel
theorem d_MO_bestThumb_11 : decode (mC m_MO_bestThumb) 11 = .ok (.bipush 100, 2) := by decide +kernel
theorem d_MO_bestThumb_13 : decode (mC m_MO_bestThumb) 13 = .ok (.invokestatic 161, 3) := by decide +kernel
theorem d_MO_bestThumb_16 : decode (mC m_MO_bestThumb) 16 = .ok (.ifCond .ne 7, 3) := by decide +kernel
theorem d_MO_bestThumb_19 : decode (mC m_MO_bestThumb) 19 = .ok (.iconst 1, 1) := by decide +kernel
theorem d_MO_bestThumb_20 : decode (mC m_MO_bestThumb) 20 = .ok (.goto 4, 3) := by decide +kernel
theorem d_MO_bestThumb_23 : decode (mC m_MO_bestThumb) 23 = .ok (.iconst 0, 1) := by decide +kernel
theorem d_MO_bestThumb_24 : decode (mC m_MO_bestThumb) 24 = .ok (.iconst 2, 1) := by decide +kernel
theorem d_MO_bestThumb_25 : decode (mC m_MO_bestThumb) 25 = .ok (.invokevirtual 154, 3) := by decide +kernel
theorem d_MO_bestThumb_28 : decode (mC m_MO_bestThumb) 28 = .ok (.ifCond .eq 5, 3) := by decide +kernel
theorem d_MO_bestThumb_31 : decode (mC m_MO_bestThumb) 31 = .ok (.iconst 0, 1) := by decide +kernel
theorem d_MO_bestThumb_32 : decode (mC m_MO_bestThumb) 32 = .ok (.ireturn, 1) := by decide +kernel
theorem d_MO_bestThumb_33 : decode (mC m_MO_bestThumb) 33 = .ok (.iconst 0, 1) := by decide +kernel
theorem d_MO_bestThumb_34 : decode (mC m_MO_bestThumb) 34 = .ok (.istore_n 3, 1) := by decide +kernel
theorem d_MO_bestThumb_35 : decode (mC m_MO_bestThumb) 35 = .ok (.ldc_w 302, 3) := by decide +kernel
theorem d_MO_bestThumb_38 : decode (mC m_MO_bestThumb) 38 = .ok (.istore 4, 2) := by decide +kernel
theorem d_MO_bestThumb_40 : decode (mC m_MO_bestThumb) 40 = .ok (.iconst 0, 1) := by decide +kernel
theorem d_MO_bestThumb_41 : decode (mC m_MO_bestThumb) 41 = .ok (.istore 5, 2) := by decide +kernel
theorem d_MO_bestThumb_43 : decode (mC m_MO_bestThumb) 43 = .ok (.iload 5, 2) := by decide +kernel
theorem d_MO_bestThumb_45 : decode (mC m_MO_bestThumb) 45 = .ok (.bipush 100, 2) := by decide +kernel
theorem d_MO_bestThumb_47 : decode (mC m_MO_bestThumb) 47 = .ok (.if_icmp .gt 50, 3) := by decide +kernel
theorem d_MO_bestThumb_50 : decode (mC m_MO_bestThumb) 50 = .ok (.aload_n 0, 1) := by decide +kernel
theorem d_MO_bestThumb_51 : decode (mC m_MO_bestThumb) 51 = .ok (.iconst 0, 1) := by decide +kernel
theorem d_MO_bestThumb_52 : decode (mC m_MO_bestThumb) 52 = .ok (.bipush 12, 2) := by decide +kernel
theorem d_MO_bestThumb_54 : decode (mC m_MO_bestThumb) 54 = .ok (.invokevirtual 61, 3) := by decide +kernel
theorem d_MO_bestThumb_57 : decode (mC m_MO_bestThumb) 57 = .ok (.aload_n 0, 1) := by decide +kernel
theorem d_MO_bestThumb_58 : decode (mC m_MO_bestThumb) 58 = .ok (.iload_n 1, 1) := by decide +kernel
theorem d_MO_bestThumb_59 : decode (mC m_MO_bestThumb) 59 = .ok (.bipush 6, 2) := by decide +kernel
theorem d_MO_bestThumb_61 : decode (mC m_MO_bestThumb) 61 = .ok (.iload 5, 2) := by decide +kernel
theorem d_MO_bestThumb_63 : decode (mC m_MO_bestThumb) 63 = .ok (.invokevirtual 65, 3) := by decide +kernel
theorem d_MO_bestThumb_66 : decode (mC m_MO_bestThumb) 66 = .ok (.aload_n 0, 1) := by decide +kernel
theorem d_MO_bestThumb_67 : decode (mC m_MO_bestThumb) 67 = .ok (.iload_n 1, 1) := by decide +kernel
theorem d_MO_bestThumb_68 : decode (mC m_MO_bestThumb) 68 = .ok (.iload_n 2, 1) := by decide +kernel
theorem d_MO_bestThumb_69 : decode (mC m_MO_bestThumb) 69 = .ok (.invokevirtual 299, 3) := by decide +kernel
theorem d_MO_bestThumb_72 : decode (mC m_MO_bestThumb) 72 = .ok (.istore 6, 2) := by decide +kernel
theorem d_MO_bestThumb_74 : decode (mC m_MO_bestThumb) 74 = .ok (.iload 6, 2) := by decide +kernel
theorem d_MO_bestThumb_76 : decode (mC m_MO_bestThumb) 76 = .ok (.iload 4, 2) := by decide +kernel
theorem d_MO_bestThumb_78 : decode (mC m_MO_bestThumb) 78 = .ok (.if_icmp .gt 6, 3) := by decide +kernel
theorem d_MO_bestThumb_81 : decode (mC m_MO_bestThumb) 81 = .ok (.goto 10, 3) := by decide +kernel
theorem d_MO_bestThumb_84 : decode (mC m_MO_bestThumb) 84 = .ok (.iload 6, 2) := by decide +kernel
theorem d_MO_bestThumb_86 : decode (mC m_MO_bestThumb) 86 = .ok (.istore 4, 2) := by decide +kernel
theorem d_MO_bestThumb_88 : decode (mC m_MO_bestThumb) 88 = .ok (.iload 5, 2) := by decide +kernel
theorem d_MO_bestThumb_90 : decode (mC m_MO_bestThumb) 90 = .ok (.istore_n 3, 1) := by decide +kernel
theorem d_MO_bestThumb_91 : decode (mC m_MO_bestThumb) 91 = .ok (.iinc 5 5, 3) := by decide +kernel
theorem d_MO_bestThumb_94 : decode (mC m_MO_bestThumb) 94 = .ok (.goto (-51), 3) := by decide +kernel
theorem d_MO_bestThumb_97 : decode (mC m_MO_bestThumb) 97 = .ok (.iload_n 3, 1) := by decide +kernel
theorem d_MO_bestThumb_98 : decode (mC m_MO_bestThumb) 98 = .ok (.ireturn, 1) := by decide +kernel
theorem d_MO_mostFined_0 : decode (mC m_MO_mostFined) 0 = .ok (.aload_n 0, 1) := by decide +kernel
theorem d_MO_mostFined_1 : decode (mC m_MO_mostFined) 1 = .ok (.iconst 0, 1) := by decide +kernel
theorem d_MO_mostFined_2 : decode (mC m_MO_mostFined) 2 = .ok (.putfield 52, 3) := by decide +kernel
theorem d_MO_mostFined_5 : decode (mC m_MO_mostFined) 5 = .ok (.iconst 0, 1) := by decide +kernel
theorem d_MO_mostFined_6 : decode (mC m_MO_mostFined) 6 = .ok (.istore_n 1, 1) := by decide +kernel
theorem d_MO_mostFined_7 : decode (mC m_MO_mostFined) 7 = .ok (.iconst 1, 1) := by decide +kernel
theorem d_MO_mostFined_8 : decode (mC m_MO_mostFined) 8 = .ok (.istore_n 2, 1) := by decide +kernel
theorem d_MO_mostFined_9 : decode (mC m_MO_mostFined) 9 = .ok (.iload_n 2, 1) := by decide +kernel
theorem d_MO_mostFined_10 : decode (mC m_MO_mostFined) 10 = .ok (.aload_n 0, 1) := by decide +kernel
theorem d_MO_mostFined_11 : decode (mC m_MO_mostFined) 11 = .ok (.getfield 7, 3) := by decide +kernel
theorem d_MO_mostFined_14 : decode (mC m_MO_mostFined) 14 = .ok (.bipush 8, 2) := by decide +kernel
theorem d_MO_mostFined_16 : decode (mC m_MO_mostFined) 16 = .ok (.iaload, 1) := by decide +kernel
theorem d_MO_mostFined_17 : decode (mC m_MO_mostFined) 17 = .ok (.if_icmp .ge 28, 3) := by decide +kernel
theorem d_MO_mostFined_20 : decode (mC m_MO_mostFined) 20 = .ok (.aload_n 0, 1) := by decide +kernel
theorem d_MO_mostFined_21 : decode (mC m_MO_mostFined) 21 = .ok (.iload_n 2, 1) := by decide +kernel
theorem d_MO_mostFined_22 : decode (mC m_MO_mostFined) 22 = .ok (.bipush 13, 2) := by decide +kernel
theorem d_MO_mostFined_24 : decode (mC m_MO_mostFined) 24 = .ok (.invokevirtual 69, 3) := by decide +kernel
theorem d_MO_mostFined_27 : decode (mC m_MO_mostFined) 27 = .ok (.aload_n 0, 1) := by decide +kernel
theorem d_MO_mostFined_28 : decode (mC m_MO_mostFined) 28 = .ok (.iload_n 1, 1) := by decide +kernel
theorem d_MO_mostFined_29 : decode (mC m_MO_mostFined) 29 = .ok (.bipush 13, 2) := by decide +kernel
theorem d_MO_mostFined_31 : decode (mC m_MO_mostFined) 31 = .ok (.invokevirtual 69, 3) := by decide +kernel
theorem d_MO_mostFined_34 : decode (mC m_MO_mostFined) 34 = .ok (.if_icmp .le 5, 3) := by decide +kernel
theorem d_MO_mostFined_37 : decode (mC m_MO_mostFined) 37 = .ok (.iload_n 2, 1) := by decide +kernel
theorem d_MO_mostFined_38 : decode (mC m_MO_mostFined) 38 = .ok (.istore_n 1, 1) := by decide +kernel
theorem d_MO_mostFined_39 : decode (mC m_MO_mostFined) 39 = .ok (.iinc 2 1, 3) := by decide +kernel
theorem d_MO_mostFined_42 : decode (mC m_MO_mostFined) 42 = .ok (.goto (-33), 3) := by decide +kernel
theorem d_MO_mostFined_45 : decode (mC m_MO_mostFined) 45 = .ok (.iload_n 1, 1) := by decide +kernel
theorem d_MO_mostFined_46 : decode (mC m_MO_mostFined) 46 = .ok (.ireturn, 1) := by decide +kernel
theorem d_MO_ounces_0 : decode (mC m_MO_ounces) 0 = .ok (.aload_n 0, 1) := by decide +kernel
theorem d_MO_ounces_1 : decode (mC m_MO_ounces) 1 = .ok (.iload_n 1, 1) := by decide +kernel
theorem d_MO_ounces_2 : decode (mC m_MO_ounces) 2 = .ok (.invokevirtual 284, 3) := by decide +kernel
theorem d_MO_ounces_5 : decode (mC m_MO_ounces) 5 = .ok (.ifCond .eq 5, 3) := by decide +kernel
theorem d_MO_ounces_8 : decode (mC m_MO_ounces) 8 = .ok (.iconst 0, 1) := by decide +kernel
theorem d_MO_ounces_9 : decode (mC m_MO_ounces) 9 = .ok (.ireturn, 1) := by decide +kernel
theorem d_MO_ounces_10 : decode (mC m_MO_ounces) 10 = .ok (.aload_n 0, 1) := by decide +kernel
theorem d_MO_ounces_11 : decode (mC m_MO_ounces) 11 = .ok (.iload_n 1, 1) := by decide +kernel
theorem d_MO_ounces_12 : decode (mC m_MO_ounces) 12 = .ok (.invokevirtual 109, 3) := by decide +kernel
theorem d_MO_ounces_15 : decode (mC m_MO_ounces) 15 = .ok (.ireturn, 1) := by decide +kernel
theorem d_MO_expiringStamps_0 : decode (mC m_MO_expiringStamps) 0 = .ok (.aload_n 0, 1) := by decide +kernel
theorem d_MO_expiringStamps_1 : decode (mC m_MO_expiringStamps) 1 = .ok (.iconst 0, 1) := by decide +kernel
theorem d_MO_expiringStamps_2 : decode (mC m_MO_expiringStamps) 2 = .ok (.putfield 52, 3) := by decide +kernel
theorem d_MO_expiringStamps_5 : decode (mC m_MO_expiringStamps) 5 = .ok (.aload_n 0, 1) := by decide +kernel
theorem d_MO_expiringStamps_6 : decode (mC m_MO_expiringStamps) 6 = .ok (.iload_n 1, 1) := by decide +kernel
theorem d_MO_expiringStamps_7 : decode (mC m_MO_expiringStamps) 7 = .ok (.iconst 0, 1) := by decide +kernel
theorem d_MO_expiringStamps_8 : decode (mC m_MO_expiringStamps) 8 = .ok (.sipush 200, 3) := by decide +kernel
theorem d_MO_expiringStamps_11 : decode (mC m_MO_expiringStamps) 11 = .ok (.invokestatic 161, 3) := by decide +kernel
theorem d_MO_expiringStamps_14 : decode (mC m_MO_expiringStamps) 14 = .ok (.ifCond .ne 7, 3) := by decide +kernel
theorem d_MO_expiringStamps_17 : decode (mC m_MO_expiringStamps) 17 = .ok (.iconst 1, 1) := by decide +kernel
theorem d_MO_expiringStamps_18 : decode (mC m_MO_expiringStamps) 18 = .ok (.goto 4, 3) := by decide +kernel
theorem d_MO_expiringStamps_21 : decode (mC m_MO_expiringStamps) 21 = .ok (.iconst 0, 1) := by decide +kernel
theorem d_MO_expiringStamps_22 : decode (mC m_MO_expiringStamps) 22 = .ok (.iconst 1, 1) := by decide +kernel
theorem d_MO_expiringStamps_23 : decode (mC m_MO_expiringStamps) 23 = .ok (.invokevirtual 154, 3) := by decide +kernel
theorem d_MO_expiringStamps_26 : decode (mC m_MO_expiringStamps) 26 = .ok (.ifCond .eq 5, 3) := by decide +kernel
theorem d_MO_expiringStamps_29 : decode (mC m_MO_expiringStamps) 29 = .ok (.iconst 0, 1) := by decide +kernel
theorem d_MO_expiringStamps_30 : decode (mC m_MO_expiringStamps) 30 = .ok (.ireturn, 1) := by decide +kernel
theorem d_MO_expiringStamps_31 : decode (mC m_MO_expiringStamps) 31 = .ok (.iconst 0, 1) := by decide +kernel
theorem d_MO_expiringStamps_32 : decode (mC m_MO_expiringStamps) 32 = .ok (.istore_n 2, 1) := by decide +kernel
theorem d_MO_expiringStamps_33 : decode (mC m_MO_expiringStamps) 33 = .ok (.iconst 0, 1) := by decide +kernel
theorem d_MO_expiringStamps_34 : decode (mC m_MO_expiringStamps) 34 = .ok (.istore_n 3, 1) := by decide +kernel
theorem d_MO_expiringStamps_35 : decode (mC m_MO_expiringStamps) 35 = .ok (.iload_n 3, 1) := by decide +kernel
theorem d_MO_expiringStamps_36 : decode (mC m_MO_expiringStamps) 36 = .ok (.aload_n 0, 1) := by decide +kernel
theorem d_MO_expiringStamps_37 : decode (mC m_MO_expiringStamps) 37 = .ok (.getfield 7, 3) := by decide +kernel
theorem d_MO_expiringStamps_40 : decode (mC m_MO_expiringStamps) 40 = .ok (.bipush 8, 2) := by decide +kernel
theorem d_MO_expiringStamps_42 : decode (mC m_MO_expiringStamps) 42 = .ok (.iaload, 1) := by decide +kernel
theorem d_MO_expiringStamps_43 : decode (mC m_MO_expiringStamps) 43 = .ok (.if_icmp .ge 39, 3) := by decide +kernel
theorem d_MO_expiringStamps_46 : decode (mC m_MO_expiringStamps) 46 = .ok (.aload_n 0, 1) := by decide +kernel
theorem d_MO_expiringStamps_47 : decode (mC m_MO_expiringStamps) 47 = .ok (.iload_n 3, 1) := by decide +kernel
theorem d_MO_expiringStamps_48 : decode (mC m_MO_expiringStamps) 48 = .ok (.invokevirtual 103, 3) := by decide +kernel
theorem d_MO_expiringStamps_51 : decode (mC m_MO_expiringStamps) 51 = .ok (.ifCond .eq 25, 3) := by decide +kernel
theorem d_MO_expiringStamps_54 : decode (mC m_MO_expiringStamps) 54 = .ok (.aload_n 0, 1) := by decide +kernel
theorem d_MO_expiringStamps_55 : decode (mC m_MO_expiringStamps) 55 = .ok (.iload_n 3, 1) := by decide +kernel
theorem d_MO_expiringStamps_56 : decode (mC m_MO_expiringStamps) 56 = .ok (.bipush 11, 2) := by decide +kernel
theorem d_MO_expiringStamps_58 : decode (mC m_MO_expiringStamps) 58 = .ok (.invokevirtual 69, 3) := by decide +kernel
theorem d_MO_expiringStamps_61 : decode (mC m_MO_expiringStamps) 61 = .ok (.aload_n 0, 1) := by decide +kernel
theorem d_MO_expiringStamps_62 : decode (mC m_MO_expiringStamps) 62 = .ok (.getfield 7, 3) := by decide +kernel
theorem d_MO_expiringStamps_65 : decode (mC m_MO_expiringStamps) 65 = .ok (.bipush 9, 2) := by decide +kernel
theorem d_MO_expiringStamps_67 : decode (mC m_MO_expiringStamps) 67 = .ok (.iaload, 1) := by decide +kernel
theorem d_MO_expiringStamps_68 : decode (mC m_MO_expiringStamps) 68 = .ok (.iload_n 1, 1) := by decide +kernel
theorem d_MO_expiringStamps_69 : decode (mC m_MO_expiringStamps) 69 = .ok (.iadd, 1) := by decide +kernel
theorem d_MO_expiringStamps_70 : decode (mC m_MO_expiringStamps) 70 = .ok (.if_icmp .ge 6, 3) := by decide +kernel
theorem d_MO_expiringStamps_73 : decode (mC m_MO_expiringStamps) 73 = .ok (.iinc 2 1, 3) := by decide +kernel
theorem d_MO_expiringStamps_76 : decode (mC m_MO_expiringStamps) 76 = .ok (.iinc 3 1, 3) := by decide +kernel
theorem d_MO_expiringStamps_79 : decode (mC m_MO_expiringStamps) 79 = .ok (.goto (-44), 3) := by decide +kernel
theorem d_MO_expiringStamps_82 : decode (mC m_MO_expiringStamps) 82 = .ok (.iload_n 2, 1) := by decide +kernel
theorem d_MO_expiringStamps_83 : decode (mC m_MO_expiringStamps) 83 = .ok (.ireturn, 1) := by decide +kernel
theorem d_MO_daysUntilClosed_0 : decode (mC m_MO_daysUntilClosed) 0 = .ok (.aload_n 0, 1) := by decide +kernel
theorem d_MO_daysUntilClosed_1 : decode (mC m_MO_daysUntilClosed) 1 = .ok (.iload_n 1, 1) := by decide +kernel
theorem d_MO_daysUntilClosed_2 : decode (mC m_MO_daysUntilClosed) 2 = .ok (.invokevirtual 284, 3) := by decide +kernel
theorem d_MO_daysUntilClosed_5 : decode (mC m_MO_daysUntilClosed) 5 = .ok (.ifCond .eq 5, 3) := by decide +kernel
theorem d_MO_daysUntilClosed_8 : decode (mC m_MO_daysUntilClosed) 8 = .ok (.iconst 0, 1) := by decide +kernel
theorem d_MO_daysUntilClosed_9 : decode (mC m_MO_daysUntilClosed) 9 = .ok (.ireturn, 1) := by decide +kernel
theorem d_MO_daysUntilClosed_10 : decode (mC m_MO_daysUntilClosed) 10 = .ok (.aload_n 0, 1) := by decide +kernel
theorem d_MO_daysUntilClosed_11 : decode (mC m_MO_daysUntilClosed) 11 = .ok (.iconst 0, 1) := by decide +kernel
theorem d_MO_daysUntilClosed_12 : decode (mC m_MO_daysUntilClosed) 12 = .ok (.bipush 12, 2) := by decide +kernel
theorem d_MO_daysUntilClosed_14 : decode (mC m_MO_daysUntilClosed) 14 = .ok (.invokevirtual 61, 3) := by decide +kernel
theorem d_MO_daysUntilClosed_17 : decode (mC m_MO_daysUntilClosed) 17 = .ok (.iconst 0, 1) := by decide +kernel
theorem d_MO_daysUntilClosed_18 : decode (mC m_MO_daysUntilClosed) 18 = .ok (.istore_n 2, 1) := by decide +kernel
theorem d_MO_daysUntilClosed_19 : decode (mC m_MO_daysUntilClosed) 19 = .ok (.aload_n 0, 1) := by decide +kernel
theorem d_MO_daysUntilClosed_20 : decode (mC m_MO_daysUntilClosed) 20 = .ok (.iload_n 1, 1) := by decide +kernel
theorem d_MO_daysUntilClosed_21 : decode (mC m_MO_daysUntilClosed) 21 = .ok (.invokevirtual 115, 3) := by decide +kernel
theorem d_MO_daysUntilClosed_24 : decode (mC m_MO_daysUntilClosed) 24 = .ok (.ifCond .eq 20, 3) := by decide +kernel
theorem d_MO_daysUntilClosed_27 : decode (mC m_MO_daysUntilClosed) 27 = .ok (.iload_n 2, 1) := by decide +kernel
theorem d_MO_daysUntilClosed_28 : decode (mC m_MO_daysUntilClosed) 28 = .ok (.sipush 200, 3) := by decide +kernel
theorem d_MO_daysUntilClosed_31 : decode (mC m_MO_daysUntilClosed) 31 = .ok (.if_icmp .ge 13, 3) := by decide +kernel
theorem d_MO_daysUntilClosed_34 : decode (mC m_MO_daysUntilClosed) 34 = .ok (.aload_n 0, 1) := by decide +kernel
theorem d_MO_daysUntilClosed_35 : decode (mC m_MO_daysUntilClosed) 35 = .ok (.invokevirtual 145, 3) := by decide +kernel
theorem d_MO_daysUntilClosed_38 : decode (mC m_MO_daysUntilClosed) 38 = .ok (.iinc 2 1, 3) := by decide +kernel
theorem d_MO_daysUntilClosed_41 : decode (mC m_MO_daysUntilClosed) 41 = .ok (.goto (-22), 3) := by decide +kernel
theorem d_MO_daysUntilClosed_44 : decode (mC m_MO_daysUntilClosed) 44 = .ok (.aload_n 0, 1) := by decide +kernel
theorem d_MO_daysUntilClosed_45 : decode (mC m_MO_daysUntilClosed) 45 = .ok (.aload_n 0, 1) := by decide +kernel
theorem d_MO_daysUntilClosed_46 : decode (mC m_MO_daysUntilClosed) 46 = .ok (.iload_n 1, 1) := by decide +kernel
theorem d_MO_daysUntilClosed_47 : decode (mC m_MO_daysUntilClosed) 47 = .ok (.invokevirtual 115, 3) := by decide +kernel
theorem d_MO_daysUntilClosed_50 : decode (mC m_MO_daysUntilClosed) 50 = .ok (.ifCond .eq 7, 3) := by decide +kernel
theorem d_MO_daysUntilClosed_53 : decode (mC m_MO_daysUntilClosed) 53 = .ok (.iconst (-1), 1) := by decide +kernel
theorem d_MO_daysUntilClosed_54 : decode (mC m_MO_daysUntilClosed) 54 = .ok (.goto 4, 3) := by decide +kernel
theorem d_MO_daysUntilClosed_57 : decode (mC m_MO_daysUntilClosed) 57 = .ok (.iload_n 2, 1) := by decide +kernel
theorem d_MO_daysUntilClosed_58 : decode (mC m_MO_daysUntilClosed) 58 = .ok (.invokevirtual 296, 3) := by decide +kernel
theorem d_MO_daysUntilClosed_61 : decode (mC m_MO_daysUntilClosed) 61 = .ok (.ireturn, 1) := by decide +kernel
theorem d_MO_coinError_0 : decode (mC m_MO_coinError) 0 = .ok (.aload_n 0, 1) := by decide +kernel
theorem d_MO_coinError_1 : decode (mC m_MO_coinError) 1 = .ok (.iconst 0, 1) := by decide +kernel
theorem d_MO_coinError_2 : decode (mC m_MO_coinError) 2 = .ok (.putfield 52, 3) := by decide +kernel
theorem d_MO_coinError_5 : decode (mC m_MO_coinError) 5 = .ok (.aload_n 0, 1) := by decide +kernel
theorem d_MO_coinError_6 : decode (mC m_MO_coinError) 6 = .ok (.getfield 7, 3) := by decide +kernel
theorem d_MO_coinError_9 : decode (mC m_MO_coinError) 9 = .ok (.bipush 12, 2) := by decide +kernel
theorem d_MO_coinError_11 : decode (mC m_MO_coinError) 11 = .ok (.iaload, 1) := by decide +kernel
theorem d_MO_coinError_12 : decode (mC m_MO_coinError) 12 = .ok (.aload_n 0, 1) := by decide +kernel
theorem d_MO_coinError_13 : decode (mC m_MO_coinError) 13 = .ok (.getfield 7, 3) := by decide +kernel
theorem d_MO_coinError_16 : decode (mC m_MO_coinError) 16 = .ok (.bipush 10, 2) := by decide +kernel
theorem d_MO_coinError_18 : decode (mC m_MO_coinError) 18 = .ok (.iaload, 1) := by decide +kernel
theorem d_MO_coinError_19 : decode (mC m_MO_coinError) 19 = .ok (.isub, 1) := by decide +kernel
theorem d_MO_coinError_20 : decode (mC m_MO_coinError) 20 = .ok (.istore_n 1, 1) := by decide +kernel
theorem d_MO_coinError_21 : decode (mC m_MO_coinError) 21 = .ok (.iconst 0, 1) := by decide +kernel
theorem d_MO_coinError_22 : decode (mC m_MO_coinError) 22 = .ok (.istore_n 2, 1) := by decide +kernel
theorem d_MO_coinError_23 : decode (mC m_MO_coinError) 23 = .ok (.iload_n 2, 1) := by decide +kernel
theorem d_MO_coinError_24 : decode (mC m_MO_coinError) 24 = .ok (.aload_n 0, 1) := by decide +kernel
theorem d_MO_coinError_25 : decode (mC m_MO_coinError) 25 = .ok (.getfield 7, 3) := by decide +kernel
theorem d_MO_coinError_28 : decode (mC m_MO_coinError) 28 = .ok (.bipush 8, 2) := by decide +kernel
theorem d_MO_coinError_30 : decode (mC m_MO_coinError) 30 = .ok (.iaload, 1) := by decide +kernel
theorem d_MO_coinError_31 : decode (mC m_MO_coinError) 31 = .ok (.if_icmp .ge 26, 3) := by decide +kernel
theorem d_MO_coinError_34 : decode (mC m_MO_coinError) 34 = .ok (.iload_n 1, 1) := by decide +kernel
theorem d_MO_coinError_35 : decode (mC m_MO_coinError) 35 = .ok (.aload_n 0, 1) := by decide +kernel
theorem d_MO_coinError_36 : decode (mC m_MO_coinError) 36 = .ok (.iload_n 2, 1) := by decide +kernel
theorem d_MO_coinError_37 : decode (mC m_MO_coinError) 37 = .ok (.bipush 14, 2) := by decide +kernel
theorem d_MO_coinError_39 : decode (mC m_MO_coinError) 39 = .ok (.invokevirtual 69, 3) := by decide +kernel
theorem d_MO_coinError_42 : decode (mC m_MO_coinError) 42 = .ok (.aload_n 0, 1) := by decide +kernel
theorem d_MO_coinError_43 : decode (mC m_MO_coinError) 43 = .ok (.iload_n 2, 1) := by decide +kernel
theorem d_MO_coinError_44 : decode (mC m_MO_coinError) 44 = .ok (.iconst 0, 1) := by decide +kernel
theorem d_MO_coinError_45 : decode (mC m_MO_coinError) 45 = .ok (.invokevirtual 69, 3) := by decide +kernel
theorem d_MO_coinError_48 : decode (mC m_MO_coinError) 48 = .ok (.isub, 1) := by decide +kernel
theorem d_MO_coinError_49 : decode (mC m_MO_coinError) 49 = .ok (.iadd, 1) := by decide +kernel
theorem d_MO_coinError_50 : decode (mC m_MO_coinError) 50 = .ok (.istore_n 1, 1) := by decide +kernel
theorem d_MO_coinError_51 : decode (mC m_MO_coinError) 51 = .ok (.iinc 2 1, 3) := by decide +kernel
theorem d_MO_coinError_54 : decode (mC m_MO_coinError) 54 = .ok (.goto (-31), 3) := by decide +kernel
theorem d_MO_coinError_57 : decode (mC m_MO_coinError) 57 = .ok (.iload_n 1, 1) := by decide +kernel
theorem d_MO_coinError_58 : decode (mC m_MO_coinError) 58 = .ok (.ireturn, 1) := by decide +kernel
theorem d_MO_meanExcess_0 : decode (mC m_MO_meanExcess) 0 = .ok (.aload_n 0, 1) := by decide +kernel
theorem d_MO_meanExcess_1 : decode (mC m_MO_meanExcess) 1 = .ok (.iconst 0, 1) := by decide +kernel
theorem d_MO_meanExcess_2 : decode (mC m_MO_meanExcess) 2 = .ok (.putfield 52, 3) := by decide +kernel
theorem d_MO_meanExcess_5 : decode (mC m_MO_meanExcess) 5 = .ok (.iconst 0, 1) := by decide +kernel
theorem d_MO_meanExcess_6 : decode (mC m_MO_meanExcess) 6 = .ok (.istore_n 1, 1) := by decide +kernel
theorem d_MO_meanExcess_7 : decode (mC m_MO_meanExcess) 7 = .ok (.iconst 0, 1) := by decide +kernel
theorem d_MO_meanExcess_8 : decode (mC m_MO_meanExcess) 8 = .ok (.istore_n 2, 1) := by decide +kernel
theorem d_MO_meanExcess_9 : decode (mC m_MO_meanExcess) 9 = .ok (.iload_n 2, 1) := by decide +kernel
theorem d_MO_meanExcess_10 : decode (mC m_MO_meanExcess) 10 = .ok (.aload_n 0, 1) := by decide +kernel
theorem d_MO_meanExcess_11 : decode (mC m_MO_meanExcess) 11 = .ok (.getfield 7, 3) := by decide +kernel
theorem d_MO_meanExcess_14 : decode (mC m_MO_meanExcess) 14 = .ok (.bipush 8, 2) := by decide +kernel
theorem d_MO_meanExcess_16 : decode (mC m_MO_meanExcess) 16 = .ok (.iaload, 1) := by decide +kernel
theorem d_MO_meanExcess_17 : decode (mC m_MO_meanExcess) 17 = .ok (.if_icmp .ge 17, 3) := by decide +kernel
theorem d_MO_meanExcess_20 : decode (mC m_MO_meanExcess) 20 = .ok (.iload_n 1, 1) := by decide +kernel
theorem d_MO_meanExcess_21 : decode (mC m_MO_meanExcess) 21 = .ok (.aload_n 0, 1) := by decide +kernel
theorem d_MO_meanExcess_22 : decode (mC m_MO_meanExcess) 22 = .ok (.iload_n 2, 1) := by decide +kernel
theorem d_MO_meanExcess_23 : decode (mC m_MO_meanExcess) 23 = .ok (.invokevirtual 83, 3) := by decide +kernel
theorem d_MO_meanExcess_26 : decode (mC m_MO_meanExcess) 26 = .ok (.iadd, 1) := by decide +kernel
theorem d_MO_meanExcess_27 : decode (mC m_MO_meanExcess) 27 = .ok (.istore_n 1, 1) := by decide +kernel
theorem d_MO_meanExcess_28 : decode (mC m_MO_meanExcess) 28 = .ok (.iinc 2 1, 3) := by decide +kernel
theorem d_MO_meanExcess_31 : decode (mC m_MO_meanExcess) 31 = .ok (.goto (-22), 3) := by decide +kernel
theorem d_MO_meanExcess_34 : decode (mC m_MO_meanExcess) 34 = .ok (.iload_n 1, 1) := by decide +kernel
theorem d_MO_meanExcess_35 : decode (mC m_MO_meanExcess) 35 = .ok (.i2d, 1) := by decide +kernel
theorem d_MO_meanExcess_36 : decode (mC m_MO_meanExcess) 36 = .ok (.aload_n 0, 1) := by decide +kernel
theorem d_MO_meanExcess_37 : decode (mC m_MO_meanExcess) 37 = .ok (.getfield 7, 3) := by decide +kernel
theorem d_MO_meanExcess_40 : decode (mC m_MO_meanExcess) 40 = .ok (.bipush 8, 2) := by decide +kernel
theorem d_MO_meanExcess_42 : decode (mC m_MO_meanExcess) 42 = .ok (.iaload, 1) := by decide +kernel
theorem d_MO_meanExcess_43 : decode (mC m_MO_meanExcess) 43 = .ok (.i2d, 1) := by decide +kernel
theorem d_MO_meanExcess_44 : decode (mC m_MO_meanExcess) 44 = .ok (.ddiv, 1) := by decide +kernel
theorem d_MO_meanExcess_45 : decode (mC m_MO_meanExcess) 45 = .ok (.dreturn, 1) := by decide +kernel
theorem d_MO_trueShare_0 : decode (mC m_MO_trueShare) 0 = .ok (.aload_n 0, 1) := by decide +kernel
theorem d_MO_trueShare_1 : decode (mC m_MO_trueShare) 1 = .ok (.iconst 0, 1) := by decide +kernel
theorem d_MO_trueShare_2 : decode (mC m_MO_trueShare) 2 = .ok (.putfield 52, 3) := by decide +kernel
theorem d_MO_trueShare_5 : decode (mC m_MO_trueShare) 5 = .ok (.iconst 0, 1) := by decide +kernel
theorem d_MO_trueShare_6 : decode (mC m_MO_trueShare) 6 = .ok (.istore_n 1, 1) := by decide +kernel
theorem d_MO_trueShare_7 : decode (mC m_MO_trueShare) 7 = .ok (.iconst 0, 1) := by decide +kernel
theorem d_MO_trueShare_8 : decode (mC m_MO_trueShare) 8 = .ok (.istore_n 2, 1) := by decide +kernel
theorem d_MO_trueShare_9 : decode (mC m_MO_trueShare) 9 = .ok (.iload_n 2, 1) := by decide +kernel
theorem d_MO_trueShare_10 : decode (mC m_MO_trueShare) 10 = .ok (.aload_n 0, 1) := by decide +kernel
theorem d_MO_trueShare_11 : decode (mC m_MO_trueShare) 11 = .ok (.getfield 7, 3) := by decide +kernel
theorem d_MO_trueShare_14 : decode (mC m_MO_trueShare) 14 = .ok (.bipush 8, 2) := by decide +kernel
theorem d_MO_trueShare_16 : decode (mC m_MO_trueShare) 16 = .ok (.iaload, 1) := by decide +kernel
theorem d_MO_trueShare_17 : decode (mC m_MO_trueShare) 17 = .ok (.if_icmp .ge 20, 3) := by decide +kernel
theorem d_MO_trueShare_20 : decode (mC m_MO_trueShare) 20 = .ok (.aload_n 0, 1) := by decide +kernel
theorem d_MO_trueShare_21 : decode (mC m_MO_trueShare) 21 = .ok (.iload_n 2, 1) := by decide +kernel
theorem d_MO_trueShare_22 : decode (mC m_MO_trueShare) 22 = .ok (.invokevirtual 99, 3) := by decide +kernel
theorem d_MO_trueShare_25 : decode (mC m_MO_trueShare) 25 = .ok (.ifCond .eq 6, 3) := by decide +kernel
theorem d_MO_trueShare_28 : decode (mC m_MO_trueShare) 28 = .ok (.iinc 1 1, 3) := by decide +kernel
theorem d_MO_trueShare_31 : decode (mC m_MO_trueShare) 31 = .ok (.iinc 2 1, 3) := by decide +kernel
theorem d_MO_trueShare_34 : decode (mC m_MO_trueShare) 34 = .ok (.goto (-25), 3) := by decide +kernel
theorem d_MO_trueShare_37 : decode (mC m_MO_trueShare) 37 = .ok (.iload_n 1, 1) := by decide +kernel
theorem d_MO_trueShare_38 : decode (mC m_MO_trueShare) 38 = .ok (.i2f, 1) := by decide +kernel
theorem d_MO_trueShare_39 : decode (mC m_MO_trueShare) 39 = .ok (.aload_n 0, 1) := by decide +kernel
theorem d_MO_trueShare_40 : decode (mC m_MO_trueShare) 40 = .ok (.getfield 7, 3) := by decide +kernel
theorem d_MO_trueShare_43 : decode (mC m_MO_trueShare) 43 = .ok (.bipush 8, 2) := by decide +kernel
theorem d_MO_trueShare_45 : decode (mC m_MO_trueShare) 45 = .ok (.iaload, 1) := by decide +kernel
theorem d_MO_trueShare_46 : decode (mC m_MO_trueShare) 46 = .ok (.i2f, 1) := by decide +kernel
theorem d_MO_trueShare_47 : decode (mC m_MO_trueShare) 47 = .ok (.fdiv, 1) := by decide +kernel
theorem d_MO_trueShare_48 : decode (mC m_MO_trueShare) 48 = .ok (.freturn, 1) := by decide +kernel
theorem d_MO_truncate_0 : decode (mC m_MO_truncate) 0 = .ok (.aload_n 0, 1) := by decide +kernel
theorem d_MO_truncate_1 : decode (mC m_MO_truncate) 1 = .ok (.iconst 0, 1) := by decide +kernel
theorem d_MO_truncate_2 : decode (mC m_MO_truncate) 2 = .ok (.putfield 52, 3) := by decide +kernel
theorem d_MO_truncate_5 : decode (mC m_MO_truncate) 5 = .ok (.aload_n 0, 1) := by decide +kernel
theorem d_MO_truncate_6 : decode (mC m_MO_truncate) 6 = .ok (.iload_n 1, 1) := by decide +kernel
theorem d_MO_truncate_7 : decode (mC m_MO_truncate) 7 = .ok (.iconst 0, 1) := by decide +kernel
theorem d_MO_truncate_8 : decode (mC m_MO_truncate) 8 = .ok (.aload_n 0, 1) := by decide +kernel
theorem d_MO_truncate_9 : decode (mC m_MO_truncate) 9 = .ok (.getfield 151, 3) := by decide +kernel
theorem d_MO_truncate_12 : decode (mC m_MO_truncate) 12 = .ok (.invokestatic 161, 3) := by decide +kernel
theorem d_MO_truncate_15 : decode (mC m_MO_truncate) 15 = .ok (.ifCond .ne 7, 3) := by decide +kernel
theorem d_MO_truncate_18 : decode (mC m_MO_truncate) 18 = .ok (.iconst 1, 1) := by decide +kernel
theorem d_MO_truncate_19 : decode (mC m_MO_truncate) 19 = .ok (.goto 4, 3) := by decide +kernel
theorem d_MO_truncate_22 : decode (mC m_MO_truncate) 22 = .ok (.iconst 0, 1) := by decide +kernel
theorem d_MO_truncate_23 : decode (mC m_MO_truncate) 23 = .ok (.iconst 1, 1) := by decide +kernel
theorem d_MO_truncate_24 : decode (mC m_MO_truncate) 24 = .ok (.invokevirtual 154, 3) := by decide +kernel
theorem d_MO_truncate_27 : decode (mC m_MO_truncate) 27 = .ok (.ifCond .eq 5, 3) := by decide +kernel
theorem d_MO_truncate_30 : decode (mC m_MO_truncate) 30 = .ok (.iconst 0, 1) := by decide +kernel
theorem d_MO_truncate_31 : decode (mC m_MO_truncate) 31 = .ok (.ireturn, 1) := by decide +kernel
theorem d_MO_truncate_32 : decode (mC m_MO_truncate) 32 = .ok (.aload_n 0, 1) := by decide +kernel
theorem d_MO_truncate_33 : decode (mC m_MO_truncate) 33 = .ok (.iload_n 1, 1) := by decide +kernel
theorem d_MO_truncate_34 : decode (mC m_MO_truncate) 34 = .ok (.putfield 151, 3) := by decide +kernel
theorem d_MO_truncate_37 : decode (mC m_MO_truncate) 37 = .ok (.aload_n 0, 1) := by decide +kernel
theorem d_MO_truncate_38 : decode (mC m_MO_truncate) 38 = .ok (.getfield 151, 3) := by decide +kernel
theorem d_MO_truncate_41 : decode (mC m_MO_truncate) 41 = .ok (.ireturn, 1) := by decide +kernel
theorem d_MO_append_0 : decode (mC m_MO_append) 0 = .ok (.aload_n 0, 1) := by decide +kernel
theorem d_MO_append_1 : decode (mC m_MO_append) 1 = .ok (.iconst 0, 1) := by decide +kernel
theorem d_MO_append_2 : decode (mC m_MO_append) 2 = .ok (.putfield 52, 3) := by decide +kernel
theorem d_MO_append_5 : decode (mC m_MO_append) 5 = .ok (.aload_n 0, 1) := by decide +kernel
theorem d_MO_append_6 : decode (mC m_MO_append) 6 = .ok (.aload_n 0, 1) := by decide +kernel
theorem d_MO_append_7 : decode (mC m_MO_append) 7 = .ok (.getfield 151, 3) := by decide +kernel
theorem d_MO_append_10 : decode (mC m_MO_append) 10 = .ok (.bipush 20, 2) := by decide +kernel
theorem d_MO_append_12 : decode (mC m_MO_append) 12 = .ok (.iadd, 1) := by decide +kernel
theorem d_MO_append_13 : decode (mC m_MO_append) 13 = .ok (.sipush 500, 3) := by decide +kernel
theorem d_MO_append_16 : decode (mC m_MO_append) 16 = .ok (.if_icmp .le 7, 3) := by decide +kernel
theorem d_MO_append_19 : decode (mC m_MO_append) 19 = .ok (.iconst 1, 1) := by decide +kernel
theorem d_MO_append_20 : decode (mC m_MO_append) 20 = .ok (.goto 4, 3) := by decide +kernel
theorem d_MO_append_23 : decode (mC m_MO_append) 23 = .ok (.iconst 0, 1) := by decide +kernel
theorem d_MO_append_24 : decode (mC m_MO_append) 24 = .ok (.iconst 1, 1) := by decide +kernel
theorem d_MO_append_25 : decode (mC m_MO_append) 25 = .ok (.invokevirtual 154, 3) := by decide +kernel
theorem d_MO_append_28 : decode (mC m_MO_append) 28 = .ok (.ifCond .eq 5, 3) := by decide +kernel
theorem d_MO_append_31 : decode (mC m_MO_append) 31 = .ok (.iconst 0, 1) := by decide +kernel
theorem d_MO_append_32 : decode (mC m_MO_append) 32 = .ok (.ireturn, 1) := by decide +kernel
theorem d_MO_append_33 : decode (mC m_MO_append) 33 = .ok (.aload_n 0, 1) := by decide +kernel
theorem d_MO_append_34 : decode (mC m_MO_append) 34 = .ok (.iload_n 1, 1) := by decide +kernel
theorem d_MO_append_35 : decode (mC m_MO_append) 35 = .ok (.invokevirtual 158, 3) := by decide +kernel
theorem d_MO_append_38 : decode (mC m_MO_append) 38 = .ok (.aload_n 0, 1) := by decide +kernel
theorem d_MO_append_39 : decode (mC m_MO_append) 39 = .ok (.iload_n 2, 1) := by decide +kernel
theorem d_MO_append_40 : decode (mC m_MO_append) 40 = .ok (.invokevirtual 158, 3) := by decide +kernel
theorem d_MO_append_43 : decode (mC m_MO_append) 43 = .ok (.aload_n 0, 1) := by decide +kernel
theorem d_MO_append_44 : decode (mC m_MO_append) 44 = .ok (.iload_n 3, 1) := by decide +kernel
theorem d_MO_append_45 : decode (mC m_MO_append) 45 = .ok (.invokevirtual 158, 3) := by decide +kernel
theorem d_MO_append_48 : decode (mC m_MO_append) 48 = .ok (.aload_n 0, 1) := by decide +kernel
theorem d_MO_append_49 : decode (mC m_MO_append) 49 = .ok (.iload 4, 2) := by decide +kernel
theorem d_MO_append_51 : decode (mC m_MO_append) 51 = .ok (.invokevirtual 158, 3) := by decide +kernel
theorem d_MO_append_54 : decode (mC m_MO_append) 54 = .ok (.aload_n 0, 1) := by decide +kernel
theorem d_MO_append_55 : decode (mC m_MO_append) 55 = .ok (.iload 5, 2) := by decide +kernel
theorem d_MO_append_57 : decode (mC m_MO_append) 57 = .ok (.invokevirtual 158, 3) := by decide +kernel
theorem d_MO_append_60 : decode (mC m_MO_append) 60 = .ok (.aload_n 0, 1) := by decide +kernel
theorem d_MO_append_61 : decode (mC m_MO_append) 61 = .ok (.getfield 151, 3) := by decide +kernel
theorem d_MO_append_64 : decode (mC m_MO_append) 64 = .ok (.ireturn, 1) := by decide +kernel
theorem d_MO_appendWord_0 : decode (mC m_MO_appendWord) 0 = .ok (.bipush 24, 2) := by decide +kernel
theorem d_MO_appendWord_2 : decode (mC m_MO_appendWord) 2 = .ok (.istore_n 2, 1) := by decide +kernel
theorem d_MO_appendWord_3 : decode (mC m_MO_appendWord) 3 = .ok (.iload_n 2, 1) := by decide +kernel
theorem d_MO_appendWord_4 : decode (mC m_MO_appendWord) 4 = .ok (.ifCond .lt 32, 3) := by decide +kernel
theorem d_MO_appendWord_7 : decode (mC m_MO_appendWord) 7 = .ok (.aload_n 0, 1) := by decide +kernel
theorem d_MO_appendWord_8 : decode (mC m_MO_appendWord) 8 = .ok (.getfield 17, 3) := by decide +kernel
theorem d_MO_appendWord_11 : decode (mC m_MO_appendWord) 11 = .ok (.aload_n 0, 1) := by decide +kernel
theorem d_MO_appendWord_12 : decode (mC m_MO_appendWord) 12 = .ok (.getfield 151, 3) := by decide +kernel
theorem d_MO_appendWord_15 : decode (mC m_MO_appendWord) 15 = .ok (.iload_n 1, 1) := by decide +kernel
theorem d_MO_appendWord_16 : decode (mC m_MO_appendWord) 16 = .ok (.iload_n 2, 1) := by decide +kernel
theorem d_MO_appendWord_17 : decode (mC m_MO_appendWord) 17 = .ok (.ishr, 1) := by decide +kernel
theorem d_MO_appendWord_18 : decode (mC m_MO_appendWord) 18 = .ok (.i2b, 1) := by decide +kernel
theorem d_MO_appendWord_19 : decode (mC m_MO_appendWord) 19 = .ok (.bastore, 1) := by decide +kernel
theorem d_MO_appendWord_20 : decode (mC m_MO_appendWord) 20 = .ok (.aload_n 0, 1) := by decide +kernel
theorem d_MO_appendWord_21 : decode (mC m_MO_appendWord) 21 = .ok (.dup, 1) := by decide +kernel
theorem d_MO_appendWord_22 : decode (mC m_MO_appendWord) 22 = .ok (.getfield 151, 3) := by decide +kernel
theorem d_MO_appendWord_25 : decode (mC m_MO_appendWord) 25 = .ok (.iconst 1, 1) := by decide +kernel
theorem d_MO_appendWord_26 : decode (mC m_MO_appendWord) 26 = .ok (.iadd, 1) := by decide +kernel
theorem d_MO_appendWord_27 : decode (mC m_MO_appendWord) 27 = .ok (.putfield 151, 3) := by decide +kernel
theorem d_MO_appendWord_30 : decode (mC m_MO_appendWord) 30 = .ok (.iinc 2 (-8), 3) := by decide +kernel
theorem d_MO_appendWord_33 : decode (mC m_MO_appendWord) 33 = .ok (.goto (-30), 3) := by decide +kernel
theorem d_MO_appendWord_36 : decode (mC m_MO_appendWord) 36 = .ok (.return_, 1) := by decide +kernel
set_option maxRecDepth 20000 in
theorem cm_MO_thrown {E : En} {h : Hp} {m st nw sc : Nat} {c g : Nat → Int32} {B : Bu} {R : List (Nat × (Nat → Int32))} (hM : MoOk h m st) (nd : (m :: st :: R.map Prod.fst).Nodup) (n6 : nw ≤ 6) (s8 : sc ≤ 8) : CR E m_MO_thrown [.ref m] (wL h ((m, c) :: (st, enc nw sc B g) :: R)) (some (.int (c 17))) (wL h ((m, c) :: (st, enc nw sc B g) :: R)) := by
  refine ct_of rfl (by decide +kernel) (Nat.le_of_ble_eq_true rfl) ?_
  show G E m_MO_thrown 0 [(0, .ref m)] [] (wL h ((m, c) :: (st, enc nw sc B g) :: R)) 0 0 _ noX
  obtain ⟨k_m, r_m_0, k_st, l_st⟩ := id hM
  refine g_aload_n (pc := 0) d_MO_thrown_0 rfl 0 rfl ?_
  refine g_lgI0 (pc := 1) (ci := 7) (f := 17) rfl d_MO_thrown_1 fl_MO_52 (by decide) k_m nd ?_
  refine g_iret (pc := 4) d_MO_thrown_4 rfl ?_
  first | exact ⟨rfl, rfl⟩ | (rw [u1_u1]; exact ⟨rfl, rfl⟩)
set_option maxRecDepth 20000 in
theorem cm_MO_throwsIf_t {E : En} {h : Hp} {m : Nat} {c : Nat → Int32} {R : List (Nat × (Nat → Int32))} {w : Int32} (k_m : hK h m = 8) (nd : (m :: R.map Prod.fst).Nodup) : CR E m_MO_throwsIf [.ref m, .int 1, .int w] (wL h ((m, c) :: R)) (some (.int 1)) (wL h ((m, u1 c 17 w) :: R)) := by
  refine ct_of rfl (by decide +kernel) (Nat.le_of_ble_eq_true rfl) ?_
  show G E m_MO_throwsIf 0 [(0, .ref m), (1, .int 1), (2, .int w)] [] (wL h ((m, c) :: R)) 0 0 _ noX
  refine g_iload_n (pc := 0) d_MO_throwsIf_0 rfl 1 rfl ?_
  refine g_if_eq (pc := 1) (tgt := 9) d_MO_throwsIf_1 (by decide) (fun c_1 => ?_) (fun c_1 => ?_)
  · exact absurd c_1 (by decide)
  · skip
    refine g_aload_n (pc := 4) d_MO_throwsIf_4 rfl 0 rfl ?_
    refine g_iload_n (pc := 5) d_MO_throwsIf_5 rfl 2 rfl ?_
    refine g_lpI0 (pc := 6) (ci := 7) (f := 17) rfl d_MO_throwsIf_6 fl_MO_52 (fun q hq => by cases hq; exact rfl) rfl rfl (by decide) k_m nd ?_
    refine g_iload_n (pc := 9) d_MO_throwsIf_9 rfl 1 rfl ?_
    refine g_zret (pc := 10) d_MO_throwsIf_10 rfl (by first | rfl | exact nar_bI _) ?_
    exact ⟨rfl, rfl⟩
set_option maxRecDepth 20000 in
theorem cm_MO_throwsIf_f {E : En} {h : Hp} {m : Nat} {c : Nat → Int32} {R : List (Nat × (Nat → Int32))} {w : Int32} (k_m : hK h m = 8) (nd : (m :: R.map Prod.fst).Nodup) : CR E m_MO_throwsIf [.ref m, .int 0, .int w] (wL h ((m, c) :: R)) (some (.int 0)) (wL h ((m, c) :: R)) := by
  refine ct_of rfl (by decide +kernel) (Nat.le_of_ble_eq_true rfl) ?_
  show G E m_MO_throwsIf 0 [(0, .ref m), (1, .int 0), (2, .int w)] [] (wL h ((m, c) :: R)) 0 0 _ noX
  refine g_iload_n (pc := 0) d_MO_throwsIf_0 rfl 1 rfl ?_
  refine g_if_eq (pc := 1) (tgt := 9) d_MO_throwsIf_1 (by decide) (fun c_1 => ?_) (fun c_1 => ?_)
  · skip
    refine g_iload_n (pc := 9) d_MO_throwsIf_9 rfl 1 rfl ?_
    refine g_zret (pc := 10) d_MO_throwsIf_10 rfl (by first | rfl | exact nar_bI _) ?_
    exact ⟨rfl, rfl⟩
  · exact absurd rfl c_1
set_option maxRecDepth 20000 in
theorem cm_MO_in_t {E : En} {h : Hp} {v lo hi : Int32} (h1 : lo ≤ v) (h2 : v ≤ hi) : CR E m_MO_in [.int v, .int lo, .int hi] h (some (.int 1)) h := by
  refine ct_of rfl (by decide +kernel) (Nat.le_of_ble_eq_true rfl) ?_
  show G E m_MO_in 0 [(0, .int v), (1, .int lo), (2, .int hi)] [] h 0 0 _ noX
  refine g_iload_n (pc := 0) d_MO_in_0 rfl 0 rfl ?_
  refine g_iload_n (pc := 1) d_MO_in_1 rfl 1 rfl ?_
  refine g_icmp_lt (pc := 2) (tgt := 14) d_MO_in_2 (by decide) (fun c_2 => ?_) (fun c_2 => ?_)
  · exact absurd h1 (Int32.not_le.mpr c_2)
  · skip
    refine g_iload_n (pc := 5) d_MO_in_5 rfl 0 rfl ?_
    refine g_iload_n (pc := 6) d_MO_in_6 rfl 2 rfl ?_
    refine g_icmp_gt (pc := 7) (tgt := 14) d_MO_in_7 (by decide) (fun c_7 => ?_) (fun c_7 => ?_)
    · exact absurd h2 (Int32.not_le.mpr c_7)
    · skip
      refine g_iconst (pc := 10) (v := 1) d_MO_in_10 (by decide) ?_
      refine g_goto (pc := 11) (tgt := 15) d_MO_in_11 (by decide) ?_
      refine g_zret (pc := 15) d_MO_in_15 rfl rfl ?_
      exact ⟨rfl, rfl⟩
set_option maxRecDepth 20000 in
theorem cm_MO_in_f {E : En} {h : Hp} {v lo hi : Int32} (hn : v < lo ∨ hi < v) : CR E m_MO_in [.int v, .int lo, .int hi] h (some (.int 0)) h := by
  refine ct_of rfl (by decide +kernel) (Nat.le_of_ble_eq_true rfl) ?_
  show G E m_MO_in 0 [(0, .int v), (1, .int lo), (2, .int hi)] [] h 0 0 _ noX
  refine g_iload_n (pc := 0) d_MO_in_0 rfl 0 rfl ?_
  refine g_iload_n (pc := 1) d_MO_in_1 rfl 1 rfl ?_
  refine g_icmp_lt (pc := 2) (tgt := 14) d_MO_in_2 (by decide) (fun c_2 => ?_) (fun c_2 => ?_)
  · skip
    refine g_iconst (pc := 14) (v := 0) d_MO_in_14 (by decide) ?_
    refine g_zret (pc := 15) d_MO_in_15 rfl rfl ?_
    exact ⟨rfl, rfl⟩
  · skip
    refine g_iload_n (pc := 5) d_MO_in_5 rfl 0 rfl ?_
    refine g_iload_n (pc := 6) d_MO_in_6 rfl 2 rfl ?_
    refine g_icmp_gt (pc := 7) (tgt := 14) d_MO_in_7 (by decide) (fun c_7 => ?_) (fun c_7 => ?_)
    · skip
      refine g_iconst (pc := 14) (v := 0) d_MO_in_14 (by decide) ?_
      refine g_zret (pc := 15) d_MO_in_15 rfl rfl ?_
      exact ⟨rfl, rfl⟩
    · exact (hn.elim c_2 c_7).elim
theorem lp_MO_copyBlock {E : En} {h : Hp} {m st : Nat} {c G0 : Nat → Int32} {R : List (Nat × (Nat → Int32))} {f t : Nat} (hM : MoOk h m st) (nd : (m :: st :: R.map Prod.fst).Nodup) (hft : f ≠ t) (hf : f ≤ 12) (ht : t ≤ 12) : ∀ (d i : Nat), i ≤ 140 → 140 - i < d → G E m_MO_copyBlock 2 [(3, .int (nI i)), (0, .ref m), (1, .int (nI f)), (2, .int (nI t))] [] (wL h ((m, c) :: (st, KCn G0 f t i) :: R)) 0 0 (fun v1 h1 => v1 = none ∧ h1 = wL h ((m, c) :: (st, KC G0 f t) :: R)) noX := by
  obtain ⟨k_m, r_m_0, k_st, l_st⟩ := id hM
  intro d
  induction d with
  | zero => intros; omega
  | succ d ih =>
    intro i hi hd
    refine g_iload_n (pc := 2) d_MO_copyBlock_2 rfl 0 rfl ?_
    refine g_sipush (pc := 3) (v := 140) d_MO_copyBlock_3 (by decide) ?_
    refine g_icmp_ge (pc := 6) (tgt := 39) d_MO_copyBlock_6 (by decide) (fun c_6 => ?_) (fun c_6 => ?_)
    · skip
      have e9 : i = 140 := by have := (nI_leI (a := 140) (by omega) (by omega)).mp c_6; omega
      refine g_vret (pc := 39) d_MO_copyBlock_39 rfl ?_
      rw [e9]
      exact ⟨rfl, rfl⟩
    · skip
      have e9 : i < 140 := Nat.lt_of_not_le (fun z => c_6 ((nI_leI (a := 140) (by omega) (by omega)).mpr z))
      refine g_aload_n (pc := 9) d_MO_copyBlock_9 rfl 1 rfl ?_
      refine g_getR (pc := 10) (ci := 7) (f := 0) (b := st) rfl r_m_0 d_MO_copyBlock_10 fl_MO_7 (by decide) k_m ?_
      refine g_sipush (pc := 13) (v := 140) d_MO_copyBlock_13 (by decide) ?_
      refine g_iload_n (pc := 16) d_MO_copyBlock_16 rfl 3 rfl ?_
      refine g_imul (pc := 17) d_MO_copyBlock_17 ?_
      refine g_iload_n (pc := 18) d_MO_copyBlock_18 rfl 0 rfl ?_
      refine g_iadd (pc := 19) d_MO_copyBlock_19 ?_
      refine g_aload_n (pc := 20) d_MO_copyBlock_20 rfl 1 rfl ?_
      refine g_getR (pc := 21) (ci := 7) (f := 0) (b := st) rfl r_m_0 d_MO_copyBlock_21 fl_MO_7 (by decide) k_m ?_
      refine g_sipush (pc := 24) (v := 140) d_MO_copyBlock_24 (by decide) ?_
      refine g_iload_n (pc := 27) d_MO_copyBlock_27 rfl 2 rfl ?_
      refine g_imul (pc := 28) d_MO_copyBlock_28 ?_
      refine g_iload_n (pc := 29) d_MO_copyBlock_29 rfl 0 rfl ?_
      refine g_iadd (pc := 30) d_MO_copyBlock_30 ?_
      refine g_top (y := nI (140 * f + i)) (by show nI 140 * nI f + nI i = _; rw [nI_mul, nI_add]) ?_
      refine g_lia1 (pc := 31) (j := (140 * f + i)) d_MO_copyBlock_31 k_st l_st (by first | assumption | omega | decide) (by decide) nd ?_
      refine g_top2 (y := nI (140 * t + i)) (by show nI 140 * nI t + nI i = _; rw [nI_mul, nI_add]) ?_
      refine g_liE1 (pc := 32) (j := (140 * t + i)) (hg := KCn_S hft e9) d_MO_copyBlock_32 k_st l_st (by first | assumption | omega | decide) (by decide) nd ?_
      obtain ⟨x_1, hx_1⟩ : ∃ y : Int32, y = (nI i) + 1 := ⟨_, rfl⟩
      refine g_iinc (pc := 33) (w := 0) (v := x_1) (lv' := [(3, .int x_1), (0, .ref m), (1, .int (nI f)), (2, .int (nI t))]) d_MO_copyBlock_33 rfl (by rw [hx_1]; rfl) (by decide) rfl ?_
      refine g_goto (pc := 36) (tgt := 2) d_MO_copyBlock_36 (by decide) ?_
      have e8 : x_1 = nI (i + 1) := by rw [hx_1]; exact nI_1 _
      clear hx_1
      subst e8
      exact ih (i + 1) (by omega) (by omega)
set_option maxRecDepth 20000 in
theorem cr_MO_copyBlock {E : En} {h : Hp} {m st : Nat} {c G0 : Nat → Int32} {R : List (Nat × (Nat → Int32))} {f t : Nat} (hM : MoOk h m st) (nd : (m :: st :: R.map Prod.fst).Nodup) (hft : f ≠ t) (hf : f ≤ 12) (ht : t ≤ 12) : CR E m_MO_copyBlock [.ref m, .int (nI f), .int (nI t)] (wL h ((m, c) :: (st, G0) :: R)) (none) (wL h ((m, c) :: (st, KC G0 f t) :: R)) := by
  refine ct_of rfl (by decide +kernel) (Nat.le_of_ble_eq_true rfl) ?_
  show G E m_MO_copyBlock 0 [(0, .ref m), (1, .int (nI f)), (2, .int (nI t))] [] (wL h ((m, c) :: (st, G0) :: R)) 0 0 _ noX
  obtain ⟨k_m, r_m_0, k_st, l_st⟩ := id hM
  refine g_iconst (pc := 0) (v := 0) d_MO_copyBlock_0 (by decide) ?_
  refine g_nameI (fun x_1 hx_1 => ?_)
  refine g_istore_n (pc := 1) (lv' := [(3, .int x_1), (0, .ref m), (1, .int (nI f)), (2, .int (nI t))]) d_MO_copyBlock_1 rfl (by decide) rfl ?_
  subst hx_1
  refine g_h (h' := wL h ((m, c) :: (st, KCn G0 f t 0) :: R)) (by rw [KCn_0]) ?_
  exact lp_MO_copyBlock hM nd hft hf ht 141 0 (Nat.zero_le _) (by omega)
set_option maxRecDepth 20000 in
theorem cr_MO_keep {E : En} {h : Hp} {m st : Nat} {c G0 : Nat → Int32} {R : List (Nat × (Nat → Int32))} {b : Nat} {old kept : Nat} (hM : MoOk h m st) (nd : (m :: st :: R.map Prod.fst).Nodup) (hk1 : c 1 = nI old) (hk2 : c 2 = nI kept) (ho8 : old < 8) (hk8 : kept ≤ 8) (hb : b = 0 ∨ b = 11) : CR E m_MO_keep [.ref m, .int (nI b)] (wL h ((m, c) :: (st, G0) :: R)) (none) (wL h ((m, kpC c old kept) :: (st, KC G0 b (1 + (old + kept) % 8)) :: R)) := by
  refine ct_of rfl (by decide +kernel) (Nat.le_of_ble_eq_true rfl) ?_
  show G E m_MO_keep 0 [(0, .ref m), (1, .int (nI b))] [] (wL h ((m, c) :: (st, G0) :: R)) 0 0 _ noX
  obtain ⟨k_m, r_m_0, k_st, l_st⟩ := id hM
  refine g_aload_n (pc := 0) d_MO_keep_0 rfl 0 rfl ?_
  refine g_lgI0 (pc := 1) (ci := 7) (f := 2) rfl d_MO_keep_1 fl_MO_55 (by decide) k_m nd ?_
  refine g_bipush (pc := 4) (v := 8) d_MO_keep_4 (by decide) ?_
  refine g_icmp_ne (pc := 6) (tgt := 25) d_MO_keep_6 (by decide) (fun c_6 => ?_) (fun c_6 => ?_)
  · skip
    have e8 : ¬ kept = 8 := fun z => c_6 (by rw [z] at hk2; exact hk2)
    refine g_aload_n (pc := 25) d_MO_keep_25 rfl 0 rfl ?_
    refine g_dup (pc := 26) d_MO_keep_26 rfl ?_
    refine g_lgI0 (pc := 27) (ci := 7) (f := 2) rfl d_MO_keep_27 fl_MO_55 (by decide) k_m nd ?_
    refine g_iconst (pc := 30) (v := 1) d_MO_keep_30 (by decide) ?_
    refine g_iadd (pc := 31) d_MO_keep_31 ?_
    refine g_top (y := nI (kept + 1)) (by rw [hk2]; exact nI_1 kept) ?_
    refine g_lpI0 (pc := 32) (ci := 7) (f := 2) rfl d_MO_keep_32 fl_MO_55 (fun q hq => by cases hq; exact rfl) rfl rfl (by decide) k_m nd ?_
    refine g_aload_n (pc := 35) d_MO_keep_35 rfl 0 rfl ?_
    refine g_iload_n (pc := 36) d_MO_keep_36 rfl 1 rfl ?_
    refine g_iconst (pc := 37) (v := 1) d_MO_keep_37 (by decide) ?_
    refine g_aload_n (pc := 38) d_MO_keep_38 rfl 0 rfl ?_
    refine g_lgI0 (pc := 39) (ci := 7) (f := 1) rfl d_MO_keep_39 fl_MO_58 (by decide) k_m nd ?_
    refine g_aload_n (pc := 42) d_MO_keep_42 rfl 0 rfl ?_
    refine g_lgI0 (pc := 43) (ci := 7) (f := 2) rfl d_MO_keep_43 fl_MO_55 (by decide) k_m nd ?_
    refine g_iadd (pc := 46) d_MO_keep_46 ?_
    refine g_iconst (pc := 47) (v := 1) d_MO_keep_47 (by decide) ?_
    refine g_isub (pc := 48) d_MO_keep_48 ?_
    refine g_bipush (pc := 49) (v := 8) d_MO_keep_49 (by decide) ?_
    refine g_irem (pc := 51) d_MO_keep_51 (by decide) ?_
    refine g_iadd (pc := 52) d_MO_keep_52 ?_
    refine g_top (y := nI (1 + (old + kept) % 8)) (by
      first
      | (rw [show u1 c 1 (nI ((old + 1) % 8)) 1 = nI ((old + 1) % 8) from rfl, show u1 c 1 (nI ((old + 1) % 8)) 2 = nI kept from hk2, kp_t (by omega) (by omega)]; congr 1; omega)
      | (rw [show u1 c 2 (nI (kept + 1)) 1 = nI old from hk1, show u1 c 2 (nI (kept + 1)) 2 = nI (kept + 1) from rfl, kp_t (by omega) (by omega)]; congr 1)) ?_
    refine g_cV0 (pc := 53) (ci := 7) (As := [.int _, .int _]) d_MO_keep_53 rfl mv_MO_copyBlock st_MO_keep_61 rfl rfl (by decide) rfl rfl (Nat.le_of_ble_eq_true rfl) k_m (cr_MO_copyBlock hM nd (f := b) (t := 1 + (old + kept) % 8) (by omega) (by omega) (by omega)) ?_
    refine g_vret (pc := 56) d_MO_keep_56 rfl ?_
    unfold kpC
    first | (rw [if_pos e8]; exact ⟨rfl, rfl⟩) | (rw [if_neg e8]; exact ⟨rfl, rfl⟩)
  · skip
    have e8 : kept = 8 := (nI_eq (by omega) (by omega)).mp (show nI kept = nI 8 from hk2.symm.trans c_6)
    refine g_aload_n (pc := 9) d_MO_keep_9 rfl 0 rfl ?_
    refine g_aload_n (pc := 10) d_MO_keep_10 rfl 0 rfl ?_
    refine g_lgI0 (pc := 11) (ci := 7) (f := 1) rfl d_MO_keep_11 fl_MO_58 (by decide) k_m nd ?_
    refine g_iconst (pc := 14) (v := 1) d_MO_keep_14 (by decide) ?_
    refine g_iadd (pc := 15) d_MO_keep_15 ?_
    refine g_bipush (pc := 16) (v := 8) d_MO_keep_16 (by decide) ?_
    refine g_irem (pc := 18) d_MO_keep_18 (by decide) ?_
    refine g_top (y := nI ((old + 1) % 8)) (by rw [hk1, nI_1]; exact nI_rem (b := 8) (by omega) (by omega) (by omega)) ?_
    refine g_lpI0 (pc := 19) (ci := 7) (f := 1) rfl d_MO_keep_19 fl_MO_58 (fun q hq => by cases hq; exact rfl) rfl rfl (by decide) k_m nd ?_
    refine g_goto (pc := 22) (tgt := 35) d_MO_keep_22 (by decide) ?_
    refine g_aload_n (pc := 35) d_MO_keep_35 rfl 0 rfl ?_
    refine g_iload_n (pc := 36) d_MO_keep_36 rfl 1 rfl ?_
    refine g_iconst (pc := 37) (v := 1) d_MO_keep_37 (by decide) ?_
    refine g_aload_n (pc := 38) d_MO_keep_38 rfl 0 rfl ?_
    refine g_lgI0 (pc := 39) (ci := 7) (f := 1) rfl d_MO_keep_39 fl_MO_58 (by decide) k_m nd ?_
    refine g_aload_n (pc := 42) d_MO_keep_42 rfl 0 rfl ?_
    refine g_lgI0 (pc := 43) (ci := 7) (f := 2) rfl d_MO_keep_43 fl_MO_55 (by decide) k_m nd ?_
    refine g_iadd (pc := 46) d_MO_keep_46 ?_
    refine g_iconst (pc := 47) (v := 1) d_MO_keep_47 (by decide) ?_
    refine g_isub (pc := 48) d_MO_keep_48 ?_
    refine g_bipush (pc := 49) (v := 8) d_MO_keep_49 (by decide) ?_
    refine g_irem (pc := 51) d_MO_keep_51 (by decide) ?_
    refine g_iadd (pc := 52) d_MO_keep_52 ?_
    refine g_top (y := nI (1 + (old + kept) % 8)) (by
      first
      | (rw [show u1 c 1 (nI ((old + 1) % 8)) 1 = nI ((old + 1) % 8) from rfl, show u1 c 1 (nI ((old + 1) % 8)) 2 = nI kept from hk2, kp_t (by omega) (by omega)]; congr 1; omega)
      | (rw [show u1 c 2 (nI (kept + 1)) 1 = nI old from hk1, show u1 c 2 (nI (kept + 1)) 2 = nI (kept + 1) from rfl, kp_t (by omega) (by omega)]; congr 1)) ?_
    refine g_cV0 (pc := 53) (ci := 7) (As := [.int _, .int _]) d_MO_keep_53 rfl mv_MO_copyBlock st_MO_keep_61 rfl rfl (by decide) rfl rfl (Nat.le_of_ble_eq_true rfl) k_m (cr_MO_copyBlock hM nd (f := b) (t := 1 + (old + kept) % 8) (by omega) (by omega) (by omega)) ?_
    refine g_vret (pc := 56) d_MO_keep_56 rfl ?_
    unfold kpC
    first | (rw [if_pos e8]; exact ⟨rfl, rfl⟩) | (rw [if_neg e8]; exact ⟨rfl, rfl⟩)
theorem cm_MO_keep {E : En} {h : Hp} {m st nw sc : Nat} {c g : Nat → Int32} {B : Bu} {R : List (Nat × (Nat → Int32))} {old kept : Nat} (hM : MoOk h m st) (nd : (m :: st :: R.map Prod.fst).Nodup) (n6 : nw ≤ 6) (s8 : sc ≤ 8) (hk1 : c 1 = nI old) (hk2 : c 2 = nI kept) (ho8 : old < 8) (hk8 : kept ≤ 8) : CR E m_MO_keep [.ref m, .int 0] (wL h ((m, c) :: (st, enc nw sc B g) :: R)) none (wL h ((m, (kpC c old kept)) :: (st, enc nw sc B (KC (enc nw sc B g) 0 (1 + (old + kept) % 8))) :: R)) := by
  rw [enc_KC n6 s8 (by omega)]
  exact cr_MO_keep (b := 0) hM nd hk1 hk2 ho8 hk8 (Or.inl rfl)
set_option maxRecDepth 20000 in
theorem cm_MO_lacksShop {E : En} {h : Hp} {m st nw sc : Nat} {c g : Nat → Int32} {B : Bu} {R : List (Nat × (Nat → Int32))} {ni U : Nat} {i : Nat} (hM : MoOk h m st) (nd : (m :: st :: R.map Prod.fst).Nodup) (hG : Gd B nw sc ni U) (hi : i < sc) : CR E m_MO_lacksShop [.ref m, .int (nI i)] (wL h ((m, c) :: (st, enc nw sc B g) :: R)) (some (.int 0)) (wL h ((m, (u1 c 17 0)) :: (st, enc nw sc B g) :: R)) := by
  refine ct_of rfl (by decide +kernel) (Nat.le_of_ble_eq_true rfl) ?_
  show G E m_MO_lacksShop 0 [(0, .ref m), (1, .int (nI i))] [] (wL h ((m, c) :: (st, enc nw sc B g) :: R)) 0 0 _ noX
  obtain ⟨k_m, r_m_0, k_st, l_st⟩ := id hM
  obtain ⟨hw, n6, hs, s8, h0, hni, n3, ⟨sd, hsd, hsx⟩, hop⟩ := id hG.1
  refine g_aload_n (pc := 0) d_MO_lacksShop_0 rfl 0 rfl ?_
  refine g_iconst (pc := 1) (v := 0) d_MO_lacksShop_1 (by decide) ?_
  refine g_lpI0 (pc := 2) (ci := 7) (f := 17) rfl d_MO_lacksShop_2 fl_MO_52 (fun q hq => by cases hq; exact rfl) rfl rfl (by decide) k_m nd ?_
  refine g_aload_n (pc := 5) d_MO_lacksShop_5 rfl 0 rfl ?_
  refine g_iload_n (pc := 6) d_MO_lacksShop_6 rfl 1 rfl ?_
  refine g_iconst (pc := 7) (v := 0) d_MO_lacksShop_7 (by decide) ?_
  refine g_aload_n (pc := 8) d_MO_lacksShop_8 rfl 0 rfl ?_
  refine g_getR (pc := 9) (ci := 7) (f := 0) (b := st) rfl r_m_0 d_MO_lacksShop_9 fl_MO_7 (by decide) k_m ?_
  refine g_bipush (pc := 12) (v := 8) d_MO_lacksShop_12 (by decide) ?_
  refine g_mI (pc := 14) (k := 8) d_MO_lacksShop_14 k_st l_st (by decide) nd ?_
  refine g_iconst (pc := 15) (v := 1) d_MO_lacksShop_15 (by decide) ?_
  refine g_isub (pc := 16) d_MO_lacksShop_16 ?_
  refine g_cS1 (pc := 17) (As := [.int _, .int _, .int _]) d_MO_lacksShop_17 rfl ms_MO_in st_MO_lacksShop_161 rfl rfl (Nat.le_of_ble_eq_true rfl) (cm_MO_in_t (arg_ok hi (by omega)).1 (by show _ ≤ B.1 8 - 1; rw [hs]; exact (arg_ok hi (by omega)).2)) ?_
  refine g_if_ne (pc := 20) (tgt := 27) d_MO_lacksShop_20 (by decide) (fun c_20 => ?_) (fun c_20 => ?_)
  · skip
    refine g_iconst (pc := 27) (v := 0) d_MO_lacksShop_27 (by decide) ?_
    refine g_iconst (pc := 28) (v := 1) d_MO_lacksShop_28 (by decide) ?_
    refine g_cV1 (pc := 29) (ci := 7) (As := [.int _, .int _]) d_MO_lacksShop_29 rfl mv_MO_throwsIf st_MO_lacksShop_154 rfl rfl (by decide) rfl rfl (Nat.le_of_ble_eq_true rfl) k_m (cm_MO_throwsIf_f k_m nd) ?_
    refine g_zret (pc := 32) d_MO_lacksShop_32 rfl (by first | rfl | exact nar_bI _) ?_
    first | exact ⟨rfl, rfl⟩ | (rw [u1_u1]; exact ⟨rfl, rfl⟩)
  · exact absurd c_20 (by decide)
set_option maxRecDepth 20000 in
theorem cm_MO_lacksShopN {E : En} {h : Hp} {m st nw sc : Nat} {c g : Nat → Int32} {B : Bu} {R : List (Nat × (Nat → Int32))} {ni U : Nat} {v : Int32} (hM : MoOk h m st) (nd : (m :: st :: R.map Prod.fst).Nodup) (hG : Gd B nw sc ni U) (hv : v < 0 ∨ nI sc ≤ v) : CR E m_MO_lacksShop [.ref m, .int v] (wL h ((m, c) :: (st, enc nw sc B g) :: R)) (some (.int 1)) (wL h ((m, (u1 c 17 1)) :: (st, enc nw sc B g) :: R)) := by
  refine ct_of rfl (by decide +kernel) (Nat.le_of_ble_eq_true rfl) ?_
  show G E m_MO_lacksShop 0 [(0, .ref m), (1, .int v)] [] (wL h ((m, c) :: (st, enc nw sc B g) :: R)) 0 0 _ noX
  obtain ⟨k_m, r_m_0, k_st, l_st⟩ := id hM
  obtain ⟨hw, n6, hs, s8, h0, hni, n3, ⟨sd, hsd, hsx⟩, hop⟩ := id hG.1
  refine g_aload_n (pc := 0) d_MO_lacksShop_0 rfl 0 rfl ?_
  refine g_iconst (pc := 1) (v := 0) d_MO_lacksShop_1 (by decide) ?_
  refine g_lpI0 (pc := 2) (ci := 7) (f := 17) rfl d_MO_lacksShop_2 fl_MO_52 (fun q hq => by cases hq; exact rfl) rfl rfl (by decide) k_m nd ?_
  refine g_aload_n (pc := 5) d_MO_lacksShop_5 rfl 0 rfl ?_
  refine g_iload_n (pc := 6) d_MO_lacksShop_6 rfl 1 rfl ?_
  refine g_iconst (pc := 7) (v := 0) d_MO_lacksShop_7 (by decide) ?_
  refine g_aload_n (pc := 8) d_MO_lacksShop_8 rfl 0 rfl ?_
  refine g_getR (pc := 9) (ci := 7) (f := 0) (b := st) rfl r_m_0 d_MO_lacksShop_9 fl_MO_7 (by decide) k_m ?_
  refine g_bipush (pc := 12) (v := 8) d_MO_lacksShop_12 (by decide) ?_
  refine g_mI (pc := 14) (k := 8) d_MO_lacksShop_14 k_st l_st (by decide) nd ?_
  refine g_iconst (pc := 15) (v := 1) d_MO_lacksShop_15 (by decide) ?_
  refine g_isub (pc := 16) d_MO_lacksShop_16 ?_
  refine g_cS1 (pc := 17) (As := [.int _, .int _, .int _]) d_MO_lacksShop_17 rfl ms_MO_in st_MO_lacksShop_161 rfl rfl (Nat.le_of_ble_eq_true rfl) (cm_MO_in_f (by show v < 0 ∨ B.1 8 - 1 < v; rw [hs]; exact arg_no h0 (by omega) hv)) ?_
  refine g_if_ne (pc := 20) (tgt := 27) d_MO_lacksShop_20 (by decide) (fun c_20 => ?_) (fun c_20 => ?_)
  · exact (c_20 (by decide)).elim
  · skip
    refine g_iconst (pc := 23) (v := 1) d_MO_lacksShop_23 (by decide) ?_
    refine g_goto (pc := 24) (tgt := 28) d_MO_lacksShop_24 (by decide) ?_
    refine g_iconst (pc := 28) (v := 1) d_MO_lacksShop_28 (by decide) ?_
    refine g_cV1 (pc := 29) (ci := 7) (As := [.int _, .int _]) d_MO_lacksShop_29 rfl mv_MO_throwsIf st_MO_lacksShop_154 rfl rfl (by decide) rfl rfl (Nat.le_of_ble_eq_true rfl) k_m (cm_MO_throwsIf_t k_m nd) ?_
    refine g_zret (pc := 32) d_MO_lacksShop_32 rfl (by first | rfl | exact nar_bI _) ?_
    first | exact ⟨rfl, rfl⟩ | (rw [u1_u1]; exact ⟨rfl, rfl⟩)
set_option maxRecDepth 20000 in
theorem cm_MO_lacksGrams {E : En} {h : Hp} {m st nw sc : Nat} {c g : Nat → Int32} {B : Bu} {R : List (Nat × (Nat → Int32))} {ni U : Nat} {i : Nat} {x : Int32} (hM : MoOk h m st) (nd : (m :: st :: R.map Prod.fst).Nodup) (hG : Gd B nw sc ni U) (hi : i < sc) (hr1 : 1 ≤ x) (hr2 : x ≤ 5000) : CR E m_MO_lacksGrams [.ref m, .int (nI i), .int x] (wL h ((m, c) :: (st, enc nw sc B g) :: R)) (some (.int 0)) (wL h ((m, (u1 c 17 0)) :: (st, enc nw sc B g) :: R)) := by
  refine ct_of rfl (by decide +kernel) (Nat.le_of_ble_eq_true rfl) ?_
  show G E m_MO_lacksGrams 0 [(0, .ref m), (1, .int (nI i)), (2, .int x)] [] (wL h ((m, c) :: (st, enc nw sc B g) :: R)) 0 0 _ noX
  obtain ⟨k_m, r_m_0, k_st, l_st⟩ := id hM
  obtain ⟨hw, n6, hs, s8, h0, hni, n3, ⟨sd, hsd, hsx⟩, hop⟩ := id hG.1
  refine g_aload_n (pc := 0) d_MO_lacksGrams_0 rfl 0 rfl ?_
  refine g_iload_n (pc := 1) d_MO_lacksGrams_1 rfl 1 rfl ?_
  refine g_cV1 (pc := 2) (ci := 7) (As := [.int _]) d_MO_lacksGrams_2 rfl mv_MO_lacksShop st_MO_lacksGrams_284 rfl rfl (by decide) rfl rfl (Nat.le_of_ble_eq_true rfl) k_m (cm_MO_lacksShop hM nd hG hi) ?_
  refine g_if_eq (pc := 5) (tgt := 10) d_MO_lacksGrams_5 (by decide) (fun c_5 => ?_) (fun c_5 => ?_)
  · skip
    refine g_aload_n (pc := 10) d_MO_lacksGrams_10 rfl 0 rfl ?_
    refine g_iload_n (pc := 11) d_MO_lacksGrams_11 rfl 2 rfl ?_
    refine g_iconst (pc := 12) (v := 1) d_MO_lacksGrams_12 (by decide) ?_
    refine g_sipush (pc := 13) (v := 5000) d_MO_lacksGrams_13 (by decide) ?_
    refine g_cS1 (pc := 16) (As := [.int _, .int _, .int _]) d_MO_lacksGrams_16 rfl ms_MO_in st_MO_lacksGrams_161 rfl rfl (Nat.le_of_ble_eq_true rfl) (cm_MO_in_t hr1 hr2) ?_
    refine g_if_ne (pc := 19) (tgt := 26) d_MO_lacksGrams_19 (by decide) (fun c_19 => ?_) (fun c_19 => ?_)
    · skip
      refine g_iconst (pc := 26) (v := 0) d_MO_lacksGrams_26 (by decide) ?_
      refine g_iconst (pc := 27) (v := 2) d_MO_lacksGrams_27 (by decide) ?_
      refine g_cV1 (pc := 28) (ci := 7) (As := [.int _, .int _]) d_MO_lacksGrams_28 rfl mv_MO_throwsIf st_MO_lacksGrams_154 rfl rfl (by decide) rfl rfl (Nat.le_of_ble_eq_true rfl) k_m (cm_MO_throwsIf_f k_m nd) ?_
      refine g_zret (pc := 31) d_MO_lacksGrams_31 rfl (by first | rfl | exact nar_bI _) ?_
      first | exact ⟨rfl, rfl⟩ | (rw [u1_u1]; exact ⟨rfl, rfl⟩)
    · exact absurd c_19 (by decide)
  · exact (c_5 (by decide)).elim
set_option maxRecDepth 20000 in
theorem cm_MO_lacksGramsN {E : En} {h : Hp} {m st nw sc : Nat} {c g : Nat → Int32} {B : Bu} {R : List (Nat × (Nat → Int32))} {ni U : Nat} {v x : Int32} (hM : MoOk h m st) (nd : (m :: st :: R.map Prod.fst).Nodup) (hG : Gd B nw sc ni U) (hv : v < 0 ∨ nI sc ≤ v) : CR E m_MO_lacksGrams [.ref m, .int v, .int x] (wL h ((m, c) :: (st, enc nw sc B g) :: R)) (some (.int 1)) (wL h ((m, (u1 c 17 1)) :: (st, enc nw sc B g) :: R)) := by
  refine ct_of rfl (by decide +kernel) (Nat.le_of_ble_eq_true rfl) ?_
  show G E m_MO_lacksGrams 0 [(0, .ref m), (1, .int v), (2, .int x)] [] (wL h ((m, c) :: (st, enc nw sc B g) :: R)) 0 0 _ noX
  obtain ⟨k_m, r_m_0, k_st, l_st⟩ := id hM
  obtain ⟨hw, n6, hs, s8, h0, hni, n3, ⟨sd, hsd, hsx⟩, hop⟩ := id hG.1
  refine g_aload_n (pc := 0) d_MO_lacksGrams_0 rfl 0 rfl ?_
  refine g_iload_n (pc := 1) d_MO_lacksGrams_1 rfl 1 rfl ?_
  refine g_cV1 (pc := 2) (ci := 7) (As := [.int _]) d_MO_lacksGrams_2 rfl mv_MO_lacksShop st_MO_lacksGrams_284 rfl rfl (by decide) rfl rfl (Nat.le_of_ble_eq_true rfl) k_m (cm_MO_lacksShopN hM nd hG hv) ?_
  refine g_if_eq (pc := 5) (tgt := 10) d_MO_lacksGrams_5 (by decide) (fun c_5 => ?_) (fun c_5 => ?_)
  · exact absurd c_5 (by decide)
  · skip
    refine g_iconst (pc := 8) (v := 1) d_MO_lacksGrams_8 (by decide) ?_
    refine g_zret (pc := 9) d_MO_lacksGrams_9 rfl (by first | rfl | exact nar_bI _) ?_
    first | exact ⟨rfl, rfl⟩ | (rw [u1_u1]; exact ⟨rfl, rfl⟩)
set_option maxRecDepth 20000 in
theorem cm_MO_lacksGramsR {E : En} {h : Hp} {m st nw sc : Nat} {c g : Nat → Int32} {B : Bu} {R : List (Nat × (Nat → Int32))} {ni U : Nat} {i : Nat} {x : Int32} (hM : MoOk h m st) (nd : (m :: st :: R.map Prod.fst).Nodup) (hG : Gd B nw sc ni U) (hi : i < sc) (hrn : x < 1 ∨ 5000 < x) : CR E m_MO_lacksGrams [.ref m, .int (nI i), .int x] (wL h ((m, c) :: (st, enc nw sc B g) :: R)) (some (.int 1)) (wL h ((m, (u1 c 17 2)) :: (st, enc nw sc B g) :: R)) := by
  refine ct_of rfl (by decide +kernel) (Nat.le_of_ble_eq_true rfl) ?_
  show G E m_MO_lacksGrams 0 [(0, .ref m), (1, .int (nI i)), (2, .int x)] [] (wL h ((m, c) :: (st, enc nw sc B g) :: R)) 0 0 _ noX
  obtain ⟨k_m, r_m_0, k_st, l_st⟩ := id hM
  obtain ⟨hw, n6, hs, s8, h0, hni, n3, ⟨sd, hsd, hsx⟩, hop⟩ := id hG.1
  refine g_aload_n (pc := 0) d_MO_lacksGrams_0 rfl 0 rfl ?_
  refine g_iload_n (pc := 1) d_MO_lacksGrams_1 rfl 1 rfl ?_
  refine g_cV1 (pc := 2) (ci := 7) (As := [.int _]) d_MO_lacksGrams_2 rfl mv_MO_lacksShop st_MO_lacksGrams_284 rfl rfl (by decide) rfl rfl (Nat.le_of_ble_eq_true rfl) k_m (cm_MO_lacksShop hM nd hG hi) ?_
  refine g_if_eq (pc := 5) (tgt := 10) d_MO_lacksGrams_5 (by decide) (fun c_5 => ?_) (fun c_5 => ?_)
  · skip
    refine g_aload_n (pc := 10) d_MO_lacksGrams_10 rfl 0 rfl ?_
    refine g_iload_n (pc := 11) d_MO_lacksGrams_11 rfl 2 rfl ?_
    refine g_iconst (pc := 12) (v := 1) d_MO_lacksGrams_12 (by decide) ?_
    refine g_sipush (pc := 13) (v := 5000) d_MO_lacksGrams_13 (by decide) ?_
    refine g_cS1 (pc := 16) (As := [.int _, .int _, .int _]) d_MO_lacksGrams_16 rfl ms_MO_in st_MO_lacksGrams_161 rfl rfl (Nat.le_of_ble_eq_true rfl) (cm_MO_in_f hrn) ?_
    refine g_if_ne (pc := 19) (tgt := 26) d_MO_lacksGrams_19 (by decide) (fun c_19 => ?_) (fun c_19 => ?_)
    · exact (c_19 (by decide)).elim
    · skip
      refine g_iconst (pc := 22) (v := 1) d_MO_lacksGrams_22 (by decide) ?_
      refine g_goto (pc := 23) (tgt := 27) d_MO_lacksGrams_23 (by decide) ?_
      refine g_iconst (pc := 27) (v := 2) d_MO_lacksGrams_27 (by decide) ?_
      refine g_cV1 (pc := 28) (ci := 7) (As := [.int _, .int _]) d_MO_lacksGrams_28 rfl mv_MO_throwsIf st_MO_lacksGrams_154 rfl rfl (by decide) rfl rfl (Nat.le_of_ble_eq_true rfl) k_m (cm_MO_throwsIf_t k_m nd) ?_
      refine g_zret (pc := 31) d_MO_lacksGrams_31 rfl (by first | rfl | exact nar_bI _) ?_
      first | exact ⟨rfl, rfl⟩ | (rw [u1_u1]; exact ⟨rfl, rfl⟩)
  · exact (c_5 (by decide)).elim
theorem cm_MO_isOpenShop_t {E : En} {h : Hp} {m st nw sc : Nat} {c g : Nat → Int32} {B : Bu} {R : List (Nat × (Nat → Int32))} {i : Nat} (hM : MoOk h m st) (nd : (m :: st :: R.map Prod.fst).Nodup) (n6 : nw ≤ 6) (s8 : sc ≤ 8) (hi : i < sc) (ho : B.2.2 i 12 = 1) : CR E m_MO_isOpenShop [.ref m, .int (nI i)] (wL h ((m, c) :: (st, enc nw sc B g) :: R)) (some (.int 1)) (wL h ((m, c) :: (st, enc nw sc B g) :: R)) := by
  have z := cm_MO_isOpenShop (E := E) (c := c) (g := g) hM nd n6 s8 hi (Or.inr ho)
  rw [decide_eq_true (show B.2.2 i 12 ≠ 0 by rw [ho]; decide)] at z
  exact z
theorem cm_MO_isOpenShop_f {E : En} {h : Hp} {m st nw sc : Nat} {c g : Nat → Int32} {B : Bu} {R : List (Nat × (Nat → Int32))} {i : Nat} (hM : MoOk h m st) (nd : (m :: st :: R.map Prod.fst).Nodup) (n6 : nw ≤ 6) (s8 : sc ≤ 8) (hi : i < sc) (ho : B.2.2 i 12 = 0) : CR E m_MO_isOpenShop [.ref m, .int (nI i)] (wL h ((m, c) :: (st, enc nw sc B g) :: R)) (some (.int 0)) (wL h ((m, c) :: (st, enc nw sc B g) :: R)) := by
  have z := cm_MO_isOpenShop (E := E) (c := c) (g := g) hM nd n6 s8 hi (Or.inl ho)
  rw [decide_eq_false (show ¬ B.2.2 i 12 ≠ 0 by rw [ho]; decide)] at z
  exact z
theorem cm_MO_canRepair_t {E : En} {h : Hp} {m st nw sc : Nat} {c g : Nat → Int32} {B : Bu} {R : List (Nat × (Nat → Int32))} {ni U i : Nat} (hM : MoOk h m st) (nd : (m :: st :: R.map Prod.fst).Nodup) (hG : Gd B nw sc ni U) (hi : i < sc) (hp : M_canPay (B.2.2 i) = true) : CR E m_MO_canRepair [.ref m, .int (nI i)] (wL h ((m, c) :: (st, enc nw sc B g) :: R)) (some (.int 1)) (wL h ((m, c) :: (st, enc nw sc B g) :: R)) := by
  have z := cm_MO_canRepair (E := E) (c := c) (g := g) hM nd hG hi
  rw [hp] at z
  exact z
theorem cm_MO_canRepair_f {E : En} {h : Hp} {m st nw sc : Nat} {c g : Nat → Int32} {B : Bu} {R : List (Nat × (Nat → Int32))} {ni U i : Nat} (hM : MoOk h m st) (nd : (m :: st :: R.map Prod.fst).Nodup) (hG : Gd B nw sc ni U) (hi : i < sc) (hp : M_canPay (B.2.2 i) = false) : CR E m_MO_canRepair [.ref m, .int (nI i)] (wL h ((m, c) :: (st, enc nw sc B g) :: R)) (some (.int 0)) (wL h ((m, c) :: (st, enc nw sc B g) :: R)) := by
  have z := cm_MO_canRepair (E := E) (c := c) (g := g) hM nd hG hi
  rw [hp] at z
  exact z
theorem cm_copy12 {E : En} {h : Hp} {m st nw sc : Nat} {c g : Nat → Int32} {B : Bu} {R : List (Nat × (Nat → Int32))} (hM : MoOk h m st) (nd : (m :: st :: R.map Prod.fst).Nodup) (n6 : nw ≤ 6) (s8 : sc ≤ 8) : CR E m_MO_copyBlock [.ref m, .int 0, .int 12] (wL h ((m, c) :: (st, enc nw sc B g) :: R)) none (wL h ((m, c) :: (st, enc nw sc B (KC (enc nw sc B g) 0 12)) :: R)) := by
  rw [enc_KC n6 s8 (by omega)]
  exact cr_MO_copyBlock (f := 0) (t := 12) hM nd (by omega) (by omega) (by omega)
set_option maxRecDepth 20000 in
theorem cm_MO_endTrial {E : En} {h : Hp} {m st nw sc : Nat} {c g : Nat → Int32} {B B1 : Bu} {R : List (Nat × (Nat → Int32))} {v : Int32} (hM : MoOk h m st) (nd : (m :: st :: R.map Prod.fst).Nodup) (n6 : nw ≤ 6) (s8 : sc ≤ 8) : CR E m_MO_endTrial [.ref m, .int v] (wL h ((m, c) :: (st, enc nw sc B1 (KC (enc nw sc B g) 0 12)) :: R)) (some (.int v)) (wL h ((m, c) :: (st, enc nw sc B (KC (enc nw sc B g) 0 12)) :: R)) := by
  refine ct_of rfl (by decide +kernel) (Nat.le_of_ble_eq_true rfl) ?_
  show G E m_MO_endTrial 0 [(0, .ref m), (1, .int v)] [] (wL h ((m, c) :: (st, enc nw sc B1 (KC (enc nw sc B g) 0 12)) :: R)) 0 0 _ noX
  obtain ⟨k_m, r_m_0, k_st, l_st⟩ := id hM
  refine g_aload_n (pc := 0) d_MO_endTrial_0 rfl 0 rfl ?_
  refine g_bipush (pc := 1) (v := 12) d_MO_endTrial_1 (by decide) ?_
  refine g_iconst (pc := 3) (v := 0) d_MO_endTrial_3 (by decide) ?_
  refine g_cV0 (pc := 4) (ci := 7) (As := [.int _, .int _]) d_MO_endTrial_4 rfl mv_MO_copyBlock st_MO_endTrial_61 rfl rfl (by decide) rfl rfl (Nat.le_of_ble_eq_true rfl) k_m (cr_MO_copyBlock (f := 12) (t := 0) hM nd (by omega) (by omega) (by omega)) ?_
  refine g_iload_n (pc := 7) d_MO_endTrial_7 rfl 1 rfl ?_
  refine g_iret (pc := 8) d_MO_endTrial_8 rfl ?_
  refine ⟨rfl, ?_⟩
  rw [trial_end n6 s8]
set_option maxRecDepth 20000 in
theorem cm_MO_day {E : En} {h : Hp} {m st nw sc : Nat} {c g : Nat → Int32} {B : Bu} {R : List (Nat × (Nat → Int32))} {ni U : Nat} (hM : MoOk h m st) (nd : (m :: st :: R.map Prod.fst).Nodup) (hG : Gd B nw sc ni U) : CR E m_MO_day [.ref m] (wL h ((m, c) :: (st, enc nw sc B g) :: R)) (some (.int (B.1 9))) (wL h ((m, (u1 c 17 0)) :: (st, enc nw sc B g) :: R)) := by
  refine ct_of rfl (by decide +kernel) (Nat.le_of_ble_eq_true rfl) ?_
  show G E m_MO_day 0 [(0, .ref m)] [] (wL h ((m, c) :: (st, enc nw sc B g) :: R)) 0 0 _ noX
  obtain ⟨k_m, r_m_0, k_st, l_st⟩ := id hM
  obtain ⟨hw, n6, hs, s8, h0, hni, n3, ⟨sd, hsd, hsx⟩, hop⟩ := id hG.1
  refine g_aload_n (pc := 0) d_MO_day_0 rfl 0 rfl ?_
  refine g_iconst (pc := 1) (v := 0) d_MO_day_1 (by decide) ?_
  refine g_lpI0 (pc := 2) (ci := 7) (f := 17) rfl d_MO_day_2 fl_MO_52 (fun q hq => by cases hq; exact rfl) rfl rfl (by decide) k_m nd ?_
  refine g_aload_n (pc := 5) d_MO_day_5 rfl 0 rfl ?_
  refine g_getR (pc := 6) (ci := 7) (f := 0) (b := st) rfl r_m_0 d_MO_day_6 fl_MO_7 (by decide) k_m ?_
  refine g_bipush (pc := 9) (v := 9) d_MO_day_9 (by decide) ?_
  refine g_mI (pc := 11) (k := 9) d_MO_day_11 k_st l_st (by decide) nd ?_
  refine g_iret (pc := 12) d_MO_day_12 rfl ?_
  first | exact ⟨rfl, rfl⟩ | (rw [u1_u1]; exact ⟨rfl, rfl⟩)
set_option maxRecDepth 20000 in
theorem cm_MO_weightCount {E : En} {h : Hp} {m st nw sc : Nat} {c g : Nat → Int32} {B : Bu} {R : List (Nat × (Nat → Int32))} {ni U : Nat} (hM : MoOk h m st) (nd : (m :: st :: R.map Prod.fst).Nodup) (hG : Gd B nw sc ni U) : CR E m_MO_weightCount [.ref m] (wL h ((m, c) :: (st, enc nw sc B g) :: R)) (some (.int (B.1 7))) (wL h ((m, (u1 c 17 0)) :: (st, enc nw sc B g) :: R)) := by
  refine ct_of rfl (by decide +kernel) (Nat.le_of_ble_eq_true rfl) ?_
  show G E m_MO_weightCount 0 [(0, .ref m)] [] (wL h ((m, c) :: (st, enc nw sc B g) :: R)) 0 0 _ noX
  obtain ⟨k_m, r_m_0, k_st, l_st⟩ := id hM
  obtain ⟨hw, n6, hs, s8, h0, hni, n3, ⟨sd, hsd, hsx⟩, hop⟩ := id hG.1
  refine g_aload_n (pc := 0) d_MO_weightCount_0 rfl 0 rfl ?_
  refine g_iconst (pc := 1) (v := 0) d_MO_weightCount_1 (by decide) ?_
  refine g_lpI0 (pc := 2) (ci := 7) (f := 17) rfl d_MO_weightCount_2 fl_MO_52 (fun q hq => by cases hq; exact rfl) rfl rfl (by decide) k_m nd ?_
  refine g_aload_n (pc := 5) d_MO_weightCount_5 rfl 0 rfl ?_
  refine g_getR (pc := 6) (ci := 7) (f := 0) (b := st) rfl r_m_0 d_MO_weightCount_6 fl_MO_7 (by decide) k_m ?_
  refine g_bipush (pc := 9) (v := 7) d_MO_weightCount_9 (by decide) ?_
  refine g_mI (pc := 11) (k := 7) d_MO_weightCount_11 k_st l_st (by decide) nd ?_
  refine g_iret (pc := 12) d_MO_weightCount_12 rfl ?_
  first | exact ⟨rfl, rfl⟩ | (rw [u1_u1]; exact ⟨rfl, rfl⟩)
set_option maxRecDepth 20000 in
theorem cm_MO_fee {E : En} {h : Hp} {m st nw sc : Nat} {c g : Nat → Int32} {B : Bu} {R : List (Nat × (Nat → Int32))} {ni U : Nat} (hM : MoOk h m st) (nd : (m :: st :: R.map Prod.fst).Nodup) (hG : Gd B nw sc ni U) : CR E m_MO_fee [.ref m] (wL h ((m, c) :: (st, enc nw sc B g) :: R)) (some (.int (B.1 2))) (wL h ((m, (u1 c 17 0)) :: (st, enc nw sc B g) :: R)) := by
  refine ct_of rfl (by decide +kernel) (Nat.le_of_ble_eq_true rfl) ?_
  show G E m_MO_fee 0 [(0, .ref m)] [] (wL h ((m, c) :: (st, enc nw sc B g) :: R)) 0 0 _ noX
  obtain ⟨k_m, r_m_0, k_st, l_st⟩ := id hM
  obtain ⟨hw, n6, hs, s8, h0, hni, n3, ⟨sd, hsd, hsx⟩, hop⟩ := id hG.1
  refine g_aload_n (pc := 0) d_MO_fee_0 rfl 0 rfl ?_
  refine g_iconst (pc := 1) (v := 0) d_MO_fee_1 (by decide) ?_
  refine g_lpI0 (pc := 2) (ci := 7) (f := 17) rfl d_MO_fee_2 fl_MO_52 (fun q hq => by cases hq; exact rfl) rfl rfl (by decide) k_m nd ?_
  refine g_aload_n (pc := 5) d_MO_fee_5 rfl 0 rfl ?_
  refine g_getR (pc := 6) (ci := 7) (f := 0) (b := st) rfl r_m_0 d_MO_fee_6 fl_MO_7 (by decide) k_m ?_
  refine g_iconst (pc := 9) (v := 2) d_MO_fee_9 (by decide) ?_
  refine g_mI (pc := 10) (k := 2) d_MO_fee_10 k_st l_st (by decide) nd ?_
  refine g_iret (pc := 11) d_MO_fee_11 rfl ?_
  first | exact ⟨rfl, rfl⟩ | (rw [u1_u1]; exact ⟨rfl, rfl⟩)
set_option maxRecDepth 20000 in
theorem cm_MO_inspectors {E : En} {h : Hp} {m st nw sc : Nat} {c g : Nat → Int32} {B : Bu} {R : List (Nat × (Nat → Int32))} {ni U : Nat} (hM : MoOk h m st) (nd : (m :: st :: R.map Prod.fst).Nodup) (hG : Gd B nw sc ni U) : CR E m_MO_inspectors [.ref m] (wL h ((m, c) :: (st, enc nw sc B g) :: R)) (some (.int (B.1 5))) (wL h ((m, (u1 c 17 0)) :: (st, enc nw sc B g) :: R)) := by
  refine ct_of rfl (by decide +kernel) (Nat.le_of_ble_eq_true rfl) ?_
  show G E m_MO_inspectors 0 [(0, .ref m)] [] (wL h ((m, c) :: (st, enc nw sc B g) :: R)) 0 0 _ noX
  obtain ⟨k_m, r_m_0, k_st, l_st⟩ := id hM
  obtain ⟨hw, n6, hs, s8, h0, hni, n3, ⟨sd, hsd, hsx⟩, hop⟩ := id hG.1
  refine g_aload_n (pc := 0) d_MO_inspectors_0 rfl 0 rfl ?_
  refine g_iconst (pc := 1) (v := 0) d_MO_inspectors_1 (by decide) ?_
  refine g_lpI0 (pc := 2) (ci := 7) (f := 17) rfl d_MO_inspectors_2 fl_MO_52 (fun q hq => by cases hq; exact rfl) rfl rfl (by decide) k_m nd ?_
  refine g_aload_n (pc := 5) d_MO_inspectors_5 rfl 0 rfl ?_
  refine g_getR (pc := 6) (ci := 7) (f := 0) (b := st) rfl r_m_0 d_MO_inspectors_6 fl_MO_7 (by decide) k_m ?_
  refine g_iconst (pc := 9) (v := 5) d_MO_inspectors_9 (by decide) ?_
  refine g_mI (pc := 10) (k := 5) d_MO_inspectors_10 k_st l_st (by decide) nd ?_
  refine g_iret (pc := 11) d_MO_inspectors_11 rfl ?_
  first | exact ⟨rfl, rfl⟩ | (rw [u1_u1]; exact ⟨rfl, rfl⟩)
set_option maxRecDepth 20000 in
theorem cm_MO_seed {E : En} {h : Hp} {m st nw sc : Nat} {c g : Nat → Int32} {B : Bu} {R : List (Nat × (Nat → Int32))} {ni U : Nat} (hM : MoOk h m st) (nd : (m :: st :: R.map Prod.fst).Nodup) (hG : Gd B nw sc ni U) : CR E m_MO_seed [.ref m] (wL h ((m, c) :: (st, enc nw sc B g) :: R)) (some (.int (B.1 6))) (wL h ((m, (u1 c 17 0)) :: (st, enc nw sc B g) :: R)) := by
  refine ct_of rfl (by decide +kernel) (Nat.le_of_ble_eq_true rfl) ?_
  show G E m_MO_seed 0 [(0, .ref m)] [] (wL h ((m, c) :: (st, enc nw sc B g) :: R)) 0 0 _ noX
  obtain ⟨k_m, r_m_0, k_st, l_st⟩ := id hM
  obtain ⟨hw, n6, hs, s8, h0, hni, n3, ⟨sd, hsd, hsx⟩, hop⟩ := id hG.1
  refine g_aload_n (pc := 0) d_MO_seed_0 rfl 0 rfl ?_
  refine g_iconst (pc := 1) (v := 0) d_MO_seed_1 (by decide) ?_
  refine g_lpI0 (pc := 2) (ci := 7) (f := 17) rfl d_MO_seed_2 fl_MO_52 (fun q hq => by cases hq; exact rfl) rfl rfl (by decide) k_m nd ?_
  refine g_aload_n (pc := 5) d_MO_seed_5 rfl 0 rfl ?_
  refine g_getR (pc := 6) (ci := 7) (f := 0) (b := st) rfl r_m_0 d_MO_seed_6 fl_MO_7 (by decide) k_m ?_
  refine g_bipush (pc := 9) (v := 6) d_MO_seed_9 (by decide) ?_
  refine g_mI (pc := 11) (k := 6) d_MO_seed_11 k_st l_st (by decide) nd ?_
  refine g_iret (pc := 12) d_MO_seed_12 rfl ?_
  first | exact ⟨rfl, rfl⟩ | (rw [u1_u1]; exact ⟨rfl, rfl⟩)
set_option maxRecDepth 20000 in
theorem cm_MO_bureauCoins {E : En} {h : Hp} {m st nw sc : Nat} {c g : Nat → Int32} {B : Bu} {R : List (Nat × (Nat → Int32))} {ni U : Nat} (hM : MoOk h m st) (nd : (m :: st :: R.map Prod.fst).Nodup) (hG : Gd B nw sc ni U) : CR E m_MO_bureauCoins [.ref m] (wL h ((m, c) :: (st, enc nw sc B g) :: R)) (some (.int (B.1 10))) (wL h ((m, (u1 c 17 0)) :: (st, enc nw sc B g) :: R)) := by
  refine ct_of rfl (by decide +kernel) (Nat.le_of_ble_eq_true rfl) ?_
  show G E m_MO_bureauCoins 0 [(0, .ref m)] [] (wL h ((m, c) :: (st, enc nw sc B g) :: R)) 0 0 _ noX
  obtain ⟨k_m, r_m_0, k_st, l_st⟩ := id hM
  obtain ⟨hw, n6, hs, s8, h0, hni, n3, ⟨sd, hsd, hsx⟩, hop⟩ := id hG.1
  refine g_aload_n (pc := 0) d_MO_bureauCoins_0 rfl 0 rfl ?_
  refine g_iconst (pc := 1) (v := 0) d_MO_bureauCoins_1 (by decide) ?_
  refine g_lpI0 (pc := 2) (ci := 7) (f := 17) rfl d_MO_bureauCoins_2 fl_MO_52 (fun q hq => by cases hq; exact rfl) rfl rfl (by decide) k_m nd ?_
  refine g_aload_n (pc := 5) d_MO_bureauCoins_5 rfl 0 rfl ?_
  refine g_getR (pc := 6) (ci := 7) (f := 0) (b := st) rfl r_m_0 d_MO_bureauCoins_6 fl_MO_7 (by decide) k_m ?_
  refine g_bipush (pc := 9) (v := 10) d_MO_bureauCoins_9 (by decide) ?_
  refine g_mI (pc := 11) (k := 10) d_MO_bureauCoins_11 k_st l_st (by decide) nd ?_
  refine g_iret (pc := 12) d_MO_bureauCoins_12 rfl ?_
  first | exact ⟨rfl, rfl⟩ | (rw [u1_u1]; exact ⟨rfl, rfl⟩)
set_option maxRecDepth 20000 in
theorem cm_MO_visits {E : En} {h : Hp} {m st nw sc : Nat} {c g : Nat → Int32} {B : Bu} {R : List (Nat × (Nat → Int32))} {ni U : Nat} (hM : MoOk h m st) (nd : (m :: st :: R.map Prod.fst).Nodup) (hG : Gd B nw sc ni U) : CR E m_MO_visits [.ref m] (wL h ((m, c) :: (st, enc nw sc B g) :: R)) (some (.int (B.1 11))) (wL h ((m, (u1 c 17 0)) :: (st, enc nw sc B g) :: R)) := by
  refine ct_of rfl (by decide +kernel) (Nat.le_of_ble_eq_true rfl) ?_
  show G E m_MO_visits 0 [(0, .ref m)] [] (wL h ((m, c) :: (st, enc nw sc B g) :: R)) 0 0 _ noX
  obtain ⟨k_m, r_m_0, k_st, l_st⟩ := id hM
  obtain ⟨hw, n6, hs, s8, h0, hni, n3, ⟨sd, hsd, hsx⟩, hop⟩ := id hG.1
  refine g_aload_n (pc := 0) d_MO_visits_0 rfl 0 rfl ?_
  refine g_iconst (pc := 1) (v := 0) d_MO_visits_1 (by decide) ?_
  refine g_lpI0 (pc := 2) (ci := 7) (f := 17) rfl d_MO_visits_2 fl_MO_52 (fun q hq => by cases hq; exact rfl) rfl rfl (by decide) k_m nd ?_
  refine g_aload_n (pc := 5) d_MO_visits_5 rfl 0 rfl ?_
  refine g_getR (pc := 6) (ci := 7) (f := 0) (b := st) rfl r_m_0 d_MO_visits_6 fl_MO_7 (by decide) k_m ?_
  refine g_bipush (pc := 9) (v := 11) d_MO_visits_9 (by decide) ?_
  refine g_mI (pc := 11) (k := 11) d_MO_visits_11 k_st l_st (by decide) nd ?_
  refine g_iret (pc := 12) d_MO_visits_12 rfl ?_
  first | exact ⟨rfl, rfl⟩ | (rw [u1_u1]; exact ⟨rfl, rfl⟩)
set_option maxRecDepth 20000 in
theorem cm_MO_shopCount {E : En} {h : Hp} {m st nw sc : Nat} {c g : Nat → Int32} {B : Bu} {R : List (Nat × (Nat → Int32))} {ni U : Nat} (hM : MoOk h m st) (nd : (m :: st :: R.map Prod.fst).Nodup) (hG : Gd B nw sc ni U) : CR E m_MO_shopCount [.ref m] (wL h ((m, c) :: (st, enc nw sc B g) :: R)) (some (.int (B.1 8))) (wL h ((m, (u1 c 17 0)) :: (st, enc nw sc B g) :: R)) := by
  refine ct_of rfl (by decide +kernel) (Nat.le_of_ble_eq_true rfl) ?_
  show G E m_MO_shopCount 0 [(0, .ref m)] [] (wL h ((m, c) :: (st, enc nw sc B g) :: R)) 0 0 _ noX
  obtain ⟨k_m, r_m_0, k_st, l_st⟩ := id hM
  obtain ⟨hw, n6, hs, s8, h0, hni, n3, ⟨sd, hsd, hsx⟩, hop⟩ := id hG.1
  refine g_aload_n (pc := 0) d_MO_shopCount_0 rfl 0 rfl ?_
  refine g_iconst (pc := 1) (v := 0) d_MO_shopCount_1 (by decide) ?_
  refine g_lpI0 (pc := 2) (ci := 7) (f := 17) rfl d_MO_shopCount_2 fl_MO_52 (fun q hq => by cases hq; exact rfl) rfl rfl (by decide) k_m nd ?_
  refine g_aload_n (pc := 5) d_MO_shopCount_5 rfl 0 rfl ?_
  refine g_getR (pc := 6) (ci := 7) (f := 0) (b := st) rfl r_m_0 d_MO_shopCount_6 fl_MO_7 (by decide) k_m ?_
  refine g_bipush (pc := 9) (v := 8) d_MO_shopCount_9 (by decide) ?_
  refine g_mI (pc := 11) (k := 8) d_MO_shopCount_11 k_st l_st (by decide) nd ?_
  refine g_iret (pc := 12) d_MO_shopCount_12 rfl ?_
  first | exact ⟨rfl, rfl⟩ | (rw [u1_u1]; exact ⟨rfl, rfl⟩)
set_option maxRecDepth 20000 in
theorem cm_MO_errorCode {E : En} {h : Hp} {m st nw sc : Nat} {c g : Nat → Int32} {B : Bu} {R : List (Nat × (Nat → Int32))} {ni U : Nat} (hM : MoOk h m st) (nd : (m :: st :: R.map Prod.fst).Nodup) (hG : Gd B nw sc ni U) : CR E m_MO_errorCode [.ref m] (wL h ((m, c) :: (st, enc nw sc B g) :: R)) (some (.int (c 6))) (wL h ((m, (u1 c 17 0)) :: (st, enc nw sc B g) :: R)) := by
  refine ct_of rfl (by decide +kernel) (Nat.le_of_ble_eq_true rfl) ?_
  show G E m_MO_errorCode 0 [(0, .ref m)] [] (wL h ((m, c) :: (st, enc nw sc B g) :: R)) 0 0 _ noX
  obtain ⟨k_m, r_m_0, k_st, l_st⟩ := id hM
  obtain ⟨hw, n6, hs, s8, h0, hni, n3, ⟨sd, hsd, hsx⟩, hop⟩ := id hG.1
  refine g_aload_n (pc := 0) d_MO_errorCode_0 rfl 0 rfl ?_
  refine g_iconst (pc := 1) (v := 0) d_MO_errorCode_1 (by decide) ?_
  refine g_lpI0 (pc := 2) (ci := 7) (f := 17) rfl d_MO_errorCode_2 fl_MO_52 (fun q hq => by cases hq; exact rfl) rfl rfl (by decide) k_m nd ?_
  refine g_aload_n (pc := 5) d_MO_errorCode_5 rfl 0 rfl ?_
  refine g_lgI0 (pc := 6) (ci := 7) (f := 6) rfl d_MO_errorCode_6 fl_MO_165 (by decide) k_m nd ?_
  refine g_iret (pc := 9) d_MO_errorCode_9 rfl ?_
  first | exact ⟨rfl, rfl⟩ | (rw [u1_u1]; exact ⟨rfl, rfl⟩)
set_option maxRecDepth 20000 in
theorem cm_MO_errorPosition {E : En} {h : Hp} {m st nw sc : Nat} {c g : Nat → Int32} {B : Bu} {R : List (Nat × (Nat → Int32))} {ni U : Nat} (hM : MoOk h m st) (nd : (m :: st :: R.map Prod.fst).Nodup) (hG : Gd B nw sc ni U) : CR E m_MO_errorPosition [.ref m] (wL h ((m, c) :: (st, enc nw sc B g) :: R)) (some (.int (c 7))) (wL h ((m, (u1 c 17 0)) :: (st, enc nw sc B g) :: R)) := by
  refine ct_of rfl (by decide +kernel) (Nat.le_of_ble_eq_true rfl) ?_
  show G E m_MO_errorPosition 0 [(0, .ref m)] [] (wL h ((m, c) :: (st, enc nw sc B g) :: R)) 0 0 _ noX
  obtain ⟨k_m, r_m_0, k_st, l_st⟩ := id hM
  obtain ⟨hw, n6, hs, s8, h0, hni, n3, ⟨sd, hsd, hsx⟩, hop⟩ := id hG.1
  refine g_aload_n (pc := 0) d_MO_errorPosition_0 rfl 0 rfl ?_
  refine g_iconst (pc := 1) (v := 0) d_MO_errorPosition_1 (by decide) ?_
  refine g_lpI0 (pc := 2) (ci := 7) (f := 17) rfl d_MO_errorPosition_2 fl_MO_52 (fun q hq => by cases hq; exact rfl) rfl rfl (by decide) k_m nd ?_
  refine g_aload_n (pc := 5) d_MO_errorPosition_5 rfl 0 rfl ?_
  refine g_lgI0 (pc := 6) (ci := 7) (f := 7) rfl d_MO_errorPosition_6 fl_MO_21 (by decide) k_m nd ?_
  refine g_iret (pc := 9) d_MO_errorPosition_9 rfl ?_
  first | exact ⟨rfl, rfl⟩ | (rw [u1_u1]; exact ⟨rfl, rfl⟩)
set_option maxRecDepth 20000 in
theorem cm_MO_openShops {E : En} {h : Hp} {m st nw sc : Nat} {c g : Nat → Int32} {B : Bu} {R : List (Nat × (Nat → Int32))} {ni U : Nat} (hM : MoOk h m st) (nd : (m :: st :: R.map Prod.fst).Nodup) (hG : Gd B nw sc ni U) : CR E m_MO_openShops [.ref m] (wL h ((m, c) :: (st, enc nw sc B g) :: R)) (some (.int (nI (P_open B.2.2 sc)))) (wL h ((m, (u1 c 17 0)) :: (st, enc nw sc B g) :: R)) := by
  refine ct_of rfl (by decide +kernel) (Nat.le_of_ble_eq_true rfl) ?_
  show G E m_MO_openShops 0 [(0, .ref m)] [] (wL h ((m, c) :: (st, enc nw sc B g) :: R)) 0 0 _ noX
  obtain ⟨k_m, r_m_0, k_st, l_st⟩ := id hM
  obtain ⟨hw, n6, hs, s8, h0, hni, n3, ⟨sd, hsd, hsx⟩, hop⟩ := id hG.1
  refine g_aload_n (pc := 0) d_MO_openShops_0 rfl 0 rfl ?_
  refine g_iconst (pc := 1) (v := 0) d_MO_openShops_1 (by decide) ?_
  refine g_lpI0 (pc := 2) (ci := 7) (f := 17) rfl d_MO_openShops_2 fl_MO_52 (fun q hq => by cases hq; exact rfl) rfl rfl (by decide) k_m nd ?_
  refine g_aload_n (pc := 5) d_MO_openShops_5 rfl 0 rfl ?_
  refine g_cV1 (pc := 6) (ci := 7) (As := []) d_MO_openShops_6 rfl mv_MO_countOpen st_MO_openShops_148 rfl rfl (by decide) rfl rfl (Nat.le_of_ble_eq_true rfl) k_m (cm_MO_countOpen hM nd hG) ?_
  refine g_iret (pc := 9) d_MO_openShops_9 rfl ?_
  first | exact ⟨rfl, rfl⟩ | (rw [u1_u1]; exact ⟨rfl, rfl⟩)
set_option maxRecDepth 20000 in
theorem cm_MO_offset {E : En} {h : Hp} {m st nw sc : Nat} {c g : Nat → Int32} {B : Bu} {R : List (Nat × (Nat → Int32))} {ni U : Nat} {i : Nat} (hM : MoOk h m st) (nd : (m :: st :: R.map Prod.fst).Nodup) (hG : Gd B nw sc ni U) (hi : i < sc) : CR E m_MO_offset [.ref m, .int (nI i)] (wL h ((m, c) :: (st, enc nw sc B g) :: R)) (some (.int (B.2.2 i 1))) (wL h ((m, (u1 c 17 0)) :: (st, enc nw sc B g) :: R)) := by
  refine ct_of rfl (by decide +kernel) (Nat.le_of_ble_eq_true rfl) ?_
  show G E m_MO_offset 0 [(0, .ref m), (1, .int (nI i))] [] (wL h ((m, c) :: (st, enc nw sc B g) :: R)) 0 0 _ noX
  obtain ⟨k_m, r_m_0, k_st, l_st⟩ := id hM
  obtain ⟨hw, n6, hs, s8, h0, hni, n3, ⟨sd, hsd, hsx⟩, hop⟩ := id hG.1
  refine g_aload_n (pc := 0) d_MO_offset_0 rfl 0 rfl ?_
  refine g_iload_n (pc := 1) d_MO_offset_1 rfl 1 rfl ?_
  refine g_cV1 (pc := 2) (ci := 7) (As := [.int _]) d_MO_offset_2 rfl mv_MO_lacksShop st_MO_offset_284 rfl rfl (by decide) rfl rfl (Nat.le_of_ble_eq_true rfl) k_m (cm_MO_lacksShop hM nd hG hi) ?_
  refine g_if_eq (pc := 5) (tgt := 10) d_MO_offset_5 (by decide) (fun c_5 => ?_) (fun c_5 => ?_)
  · skip
    refine g_aload_n (pc := 10) d_MO_offset_10 rfl 0 rfl ?_
    refine g_iload_n (pc := 11) d_MO_offset_11 rfl 1 rfl ?_
    refine g_iconst (pc := 12) (v := 1) d_MO_offset_12 (by decide) ?_
    refine g_cV1 (pc := 13) (ci := 7) (As := [.int _, .int _]) d_MO_offset_13 rfl mv_MO_of st_MO_offset_69 rfl rfl (by decide) rfl rfl (Nat.le_of_ble_eq_true rfl) k_m (cm_MO_of (k := 1) hM nd n6 s8 (by first | assumption | omega | decide) (by decide)) ?_
    refine g_iret (pc := 16) d_MO_offset_16 rfl ?_
    first | exact ⟨rfl, rfl⟩ | (rw [u1_u1]; exact ⟨rfl, rfl⟩)
  · exact (c_5 (by decide)).elim
set_option maxRecDepth 20000 in
theorem cm_MO_slope {E : En} {h : Hp} {m st nw sc : Nat} {c g : Nat → Int32} {B : Bu} {R : List (Nat × (Nat → Int32))} {ni U : Nat} {i : Nat} (hM : MoOk h m st) (nd : (m :: st :: R.map Prod.fst).Nodup) (hG : Gd B nw sc ni U) (hi : i < sc) : CR E m_MO_slope [.ref m, .int (nI i)] (wL h ((m, c) :: (st, enc nw sc B g) :: R)) (some (.int (B.2.2 i 2))) (wL h ((m, (u1 c 17 0)) :: (st, enc nw sc B g) :: R)) := by
  refine ct_of rfl (by decide +kernel) (Nat.le_of_ble_eq_true rfl) ?_
  show G E m_MO_slope 0 [(0, .ref m), (1, .int (nI i))] [] (wL h ((m, c) :: (st, enc nw sc B g) :: R)) 0 0 _ noX
  obtain ⟨k_m, r_m_0, k_st, l_st⟩ := id hM
  obtain ⟨hw, n6, hs, s8, h0, hni, n3, ⟨sd, hsd, hsx⟩, hop⟩ := id hG.1
  refine g_aload_n (pc := 0) d_MO_slope_0 rfl 0 rfl ?_
  refine g_iload_n (pc := 1) d_MO_slope_1 rfl 1 rfl ?_
  refine g_cV1 (pc := 2) (ci := 7) (As := [.int _]) d_MO_slope_2 rfl mv_MO_lacksShop st_MO_slope_284 rfl rfl (by decide) rfl rfl (Nat.le_of_ble_eq_true rfl) k_m (cm_MO_lacksShop hM nd hG hi) ?_
  refine g_if_eq (pc := 5) (tgt := 10) d_MO_slope_5 (by decide) (fun c_5 => ?_) (fun c_5 => ?_)
  · skip
    refine g_aload_n (pc := 10) d_MO_slope_10 rfl 0 rfl ?_
    refine g_iload_n (pc := 11) d_MO_slope_11 rfl 1 rfl ?_
    refine g_iconst (pc := 12) (v := 2) d_MO_slope_12 (by decide) ?_
    refine g_cV1 (pc := 13) (ci := 7) (As := [.int _, .int _]) d_MO_slope_13 rfl mv_MO_of st_MO_slope_69 rfl rfl (by decide) rfl rfl (Nat.le_of_ble_eq_true rfl) k_m (cm_MO_of (k := 2) hM nd n6 s8 (by first | assumption | omega | decide) (by decide)) ?_
    refine g_iret (pc := 16) d_MO_slope_16 rfl ?_
    first | exact ⟨rfl, rfl⟩ | (rw [u1_u1]; exact ⟨rfl, rfl⟩)
  · exact (c_5 (by decide)).elim
set_option maxRecDepth 20000 in
theorem cm_MO_drift {E : En} {h : Hp} {m st nw sc : Nat} {c g : Nat → Int32} {B : Bu} {R : List (Nat × (Nat → Int32))} {ni U : Nat} {i : Nat} (hM : MoOk h m st) (nd : (m :: st :: R.map Prod.fst).Nodup) (hG : Gd B nw sc ni U) (hi : i < sc) : CR E m_MO_drift [.ref m, .int (nI i)] (wL h ((m, c) :: (st, enc nw sc B g) :: R)) (some (.int (B.2.2 i 3))) (wL h ((m, (u1 c 17 0)) :: (st, enc nw sc B g) :: R)) := by
  refine ct_of rfl (by decide +kernel) (Nat.le_of_ble_eq_true rfl) ?_
  show G E m_MO_drift 0 [(0, .ref m), (1, .int (nI i))] [] (wL h ((m, c) :: (st, enc nw sc B g) :: R)) 0 0 _ noX
  obtain ⟨k_m, r_m_0, k_st, l_st⟩ := id hM
  obtain ⟨hw, n6, hs, s8, h0, hni, n3, ⟨sd, hsd, hsx⟩, hop⟩ := id hG.1
  refine g_aload_n (pc := 0) d_MO_drift_0 rfl 0 rfl ?_
  refine g_iload_n (pc := 1) d_MO_drift_1 rfl 1 rfl ?_
  refine g_cV1 (pc := 2) (ci := 7) (As := [.int _]) d_MO_drift_2 rfl mv_MO_lacksShop st_MO_drift_284 rfl rfl (by decide) rfl rfl (Nat.le_of_ble_eq_true rfl) k_m (cm_MO_lacksShop hM nd hG hi) ?_
  refine g_if_eq (pc := 5) (tgt := 10) d_MO_drift_5 (by decide) (fun c_5 => ?_) (fun c_5 => ?_)
  · skip
    refine g_aload_n (pc := 10) d_MO_drift_10 rfl 0 rfl ?_
    refine g_iload_n (pc := 11) d_MO_drift_11 rfl 1 rfl ?_
    refine g_iconst (pc := 12) (v := 3) d_MO_drift_12 (by decide) ?_
    refine g_cV1 (pc := 13) (ci := 7) (As := [.int _, .int _]) d_MO_drift_13 rfl mv_MO_of st_MO_drift_69 rfl rfl (by decide) rfl rfl (Nat.le_of_ble_eq_true rfl) k_m (cm_MO_of (k := 3) hM nd n6 s8 (by first | assumption | omega | decide) (by decide)) ?_
    refine g_iret (pc := 16) d_MO_drift_16 rfl ?_
    first | exact ⟨rfl, rfl⟩ | (rw [u1_u1]; exact ⟨rfl, rfl⟩)
  · exact (c_5 (by decide)).elim
set_option maxRecDepth 20000 in
theorem cm_MO_totalExcess {E : En} {h : Hp} {m st nw sc : Nat} {c g : Nat → Int32} {B : Bu} {R : List (Nat × (Nat → Int32))} {ni U : Nat} {i : Nat} (hM : MoOk h m st) (nd : (m :: st :: R.map Prod.fst).Nodup) (hG : Gd B nw sc ni U) (hi : i < sc) : CR E m_MO_totalExcess [.ref m, .int (nI i)] (wL h ((m, c) :: (st, enc nw sc B g) :: R)) (some (.int ((M_tot B.1 B.2.1 (B.2.2 i) nw)))) (wL h ((m, (u1 c 17 0)) :: (st, enc nw sc B g) :: R)) := by
  refine ct_of rfl (by decide +kernel) (Nat.le_of_ble_eq_true rfl) ?_
  show G E m_MO_totalExcess 0 [(0, .ref m), (1, .int (nI i))] [] (wL h ((m, c) :: (st, enc nw sc B g) :: R)) 0 0 _ noX
  obtain ⟨k_m, r_m_0, k_st, l_st⟩ := id hM
  obtain ⟨hw, n6, hs, s8, h0, hni, n3, ⟨sd, hsd, hsx⟩, hop⟩ := id hG.1
  refine g_aload_n (pc := 0) d_MO_totalExcess_0 rfl 0 rfl ?_
  refine g_iload_n (pc := 1) d_MO_totalExcess_1 rfl 1 rfl ?_
  refine g_cV1 (pc := 2) (ci := 7) (As := [.int _]) d_MO_totalExcess_2 rfl mv_MO_lacksShop st_MO_totalExcess_284 rfl rfl (by decide) rfl rfl (Nat.le_of_ble_eq_true rfl) k_m (cm_MO_lacksShop hM nd hG hi) ?_
  refine g_if_eq (pc := 5) (tgt := 10) d_MO_totalExcess_5 (by decide) (fun c_5 => ?_) (fun c_5 => ?_)
  · skip
    refine g_aload_n (pc := 10) d_MO_totalExcess_10 rfl 0 rfl ?_
    refine g_iload_n (pc := 11) d_MO_totalExcess_11 rfl 1 rfl ?_
    refine g_cV1 (pc := 12) (ci := 7) (As := [.int _]) d_MO_totalExcess_12 rfl mv_MO_totalOf st_MO_totalExcess_83 rfl rfl (by decide) rfl rfl (Nat.le_of_ble_eq_true rfl) k_m (cm_MO_totalOf hM nd n6 s8 (by first | assumption | omega | decide) hw) ?_
    refine g_iret (pc := 15) d_MO_totalExcess_15 rfl ?_
    first | exact ⟨rfl, rfl⟩ | (rw [u1_u1]; exact ⟨rfl, rfl⟩)
  · exact (c_5 (by decide)).elim
set_option maxRecDepth 20000 in
theorem cm_MO_isTrue {E : En} {h : Hp} {m st nw sc : Nat} {c g : Nat → Int32} {B : Bu} {R : List (Nat × (Nat → Int32))} {ni U : Nat} {i : Nat} (hM : MoOk h m st) (nd : (m :: st :: R.map Prod.fst).Nodup) (hG : Gd B nw sc ni U) (hi : i < sc) : CR E m_MO_isTrue [.ref m, .int (nI i)] (wL h ((m, c) :: (st, enc nw sc B g) :: R)) (some (.int (bI (decide ((M_tot B.1 B.2.1 (B.2.2 i) nw) = 0))))) (wL h ((m, (u1 c 17 0)) :: (st, enc nw sc B g) :: R)) := by
  refine ct_of rfl (by decide +kernel) (Nat.le_of_ble_eq_true rfl) ?_
  show G E m_MO_isTrue 0 [(0, .ref m), (1, .int (nI i))] [] (wL h ((m, c) :: (st, enc nw sc B g) :: R)) 0 0 _ noX
  obtain ⟨k_m, r_m_0, k_st, l_st⟩ := id hM
  obtain ⟨hw, n6, hs, s8, h0, hni, n3, ⟨sd, hsd, hsx⟩, hop⟩ := id hG.1
  refine g_aload_n (pc := 0) d_MO_isTrue_0 rfl 0 rfl ?_
  refine g_iload_n (pc := 1) d_MO_isTrue_1 rfl 1 rfl ?_
  refine g_cV1 (pc := 2) (ci := 7) (As := [.int _]) d_MO_isTrue_2 rfl mv_MO_lacksShop st_MO_isTrue_284 rfl rfl (by decide) rfl rfl (Nat.le_of_ble_eq_true rfl) k_m (cm_MO_lacksShop hM nd hG hi) ?_
  refine g_if_eq (pc := 5) (tgt := 10) d_MO_isTrue_5 (by decide) (fun c_5 => ?_) (fun c_5 => ?_)
  · skip
    refine g_aload_n (pc := 10) d_MO_isTrue_10 rfl 0 rfl ?_
    refine g_iload_n (pc := 11) d_MO_isTrue_11 rfl 1 rfl ?_
    refine g_cV1 (pc := 12) (ci := 7) (As := [.int _]) d_MO_isTrue_12 rfl mv_MO_isRight st_MO_isTrue_99 rfl rfl (by decide) rfl rfl (Nat.le_of_ble_eq_true rfl) k_m (cm_MO_isRight hM nd n6 s8 (by first | assumption | omega | decide) hw) ?_
    refine g_zret (pc := 15) d_MO_isTrue_15 rfl (by first | rfl | exact nar_bI _) ?_
    first | exact ⟨rfl, rfl⟩ | (rw [u1_u1]; exact ⟨rfl, rfl⟩)
  · exact (c_5 (by decide)).elim
set_option maxRecDepth 20000 in
theorem cm_MO_stampedUntil {E : En} {h : Hp} {m st nw sc : Nat} {c g : Nat → Int32} {B : Bu} {R : List (Nat × (Nat → Int32))} {ni U : Nat} {i : Nat} (hM : MoOk h m st) (nd : (m :: st :: R.map Prod.fst).Nodup) (hG : Gd B nw sc ni U) (hi : i < sc) : CR E m_MO_stampedUntil [.ref m, .int (nI i)] (wL h ((m, c) :: (st, enc nw sc B g) :: R)) (some (.int (B.2.2 i 11))) (wL h ((m, (u1 c 17 0)) :: (st, enc nw sc B g) :: R)) := by
  refine ct_of rfl (by decide +kernel) (Nat.le_of_ble_eq_true rfl) ?_
  show G E m_MO_stampedUntil 0 [(0, .ref m), (1, .int (nI i))] [] (wL h ((m, c) :: (st, enc nw sc B g) :: R)) 0 0 _ noX
  obtain ⟨k_m, r_m_0, k_st, l_st⟩ := id hM
  obtain ⟨hw, n6, hs, s8, h0, hni, n3, ⟨sd, hsd, hsx⟩, hop⟩ := id hG.1
  refine g_aload_n (pc := 0) d_MO_stampedUntil_0 rfl 0 rfl ?_
  refine g_iload_n (pc := 1) d_MO_stampedUntil_1 rfl 1 rfl ?_
  refine g_cV1 (pc := 2) (ci := 7) (As := [.int _]) d_MO_stampedUntil_2 rfl mv_MO_lacksShop st_MO_stampedUntil_284 rfl rfl (by decide) rfl rfl (Nat.le_of_ble_eq_true rfl) k_m (cm_MO_lacksShop hM nd hG hi) ?_
  refine g_if_eq (pc := 5) (tgt := 10) d_MO_stampedUntil_5 (by decide) (fun c_5 => ?_) (fun c_5 => ?_)
  · skip
    refine g_aload_n (pc := 10) d_MO_stampedUntil_10 rfl 0 rfl ?_
    refine g_iload_n (pc := 11) d_MO_stampedUntil_11 rfl 1 rfl ?_
    refine g_bipush (pc := 12) (v := 11) d_MO_stampedUntil_12 (by decide) ?_
    refine g_cV1 (pc := 14) (ci := 7) (As := [.int _, .int _]) d_MO_stampedUntil_14 rfl mv_MO_of st_MO_stampedUntil_69 rfl rfl (by decide) rfl rfl (Nat.le_of_ble_eq_true rfl) k_m (cm_MO_of (k := 11) hM nd n6 s8 (by first | assumption | omega | decide) (by decide)) ?_
    refine g_iret (pc := 17) d_MO_stampedUntil_17 rfl ?_
    first | exact ⟨rfl, rfl⟩ | (rw [u1_u1]; exact ⟨rfl, rfl⟩)
  · exact (c_5 (by decide)).elim
set_option maxRecDepth 20000 in
theorem cm_MO_isStamped {E : En} {h : Hp} {m st nw sc : Nat} {c g : Nat → Int32} {B : Bu} {R : List (Nat × (Nat → Int32))} {ni U : Nat} {i : Nat} (hM : MoOk h m st) (nd : (m :: st :: R.map Prod.fst).Nodup) (hG : Gd B nw sc ni U) (hi : i < sc) : CR E m_MO_isStamped [.ref m, .int (nI i)] (wL h ((m, c) :: (st, enc nw sc B g) :: R)) (some (.int (bI (M_stamped (B.2.2 i) (B.1 9))))) (wL h ((m, (u1 c 17 0)) :: (st, enc nw sc B g) :: R)) := by
  refine ct_of rfl (by decide +kernel) (Nat.le_of_ble_eq_true rfl) ?_
  show G E m_MO_isStamped 0 [(0, .ref m), (1, .int (nI i))] [] (wL h ((m, c) :: (st, enc nw sc B g) :: R)) 0 0 _ noX
  obtain ⟨k_m, r_m_0, k_st, l_st⟩ := id hM
  obtain ⟨hw, n6, hs, s8, h0, hni, n3, ⟨sd, hsd, hsx⟩, hop⟩ := id hG.1
  refine g_aload_n (pc := 0) d_MO_isStamped_0 rfl 0 rfl ?_
  refine g_iload_n (pc := 1) d_MO_isStamped_1 rfl 1 rfl ?_
  refine g_cV1 (pc := 2) (ci := 7) (As := [.int _]) d_MO_isStamped_2 rfl mv_MO_lacksShop st_MO_isStamped_284 rfl rfl (by decide) rfl rfl (Nat.le_of_ble_eq_true rfl) k_m (cm_MO_lacksShop hM nd hG hi) ?_
  refine g_if_eq (pc := 5) (tgt := 10) d_MO_isStamped_5 (by decide) (fun c_5 => ?_) (fun c_5 => ?_)
  · skip
    refine g_aload_n (pc := 10) d_MO_isStamped_10 rfl 0 rfl ?_
    refine g_iload_n (pc := 11) d_MO_isStamped_11 rfl 1 rfl ?_
    refine g_cV1 (pc := 12) (ci := 7) (As := [.int _]) d_MO_isStamped_12 rfl mv_MO_isValid st_MO_isStamped_103 rfl rfl (by decide) rfl rfl (Nat.le_of_ble_eq_true rfl) k_m (cm_MO_isValid hM nd n6 s8 (by first | assumption | omega | decide)) ?_
    refine g_zret (pc := 15) d_MO_isStamped_15 rfl (by first | rfl | exact nar_bI _) ?_
    first | exact ⟨rfl, rfl⟩ | (rw [u1_u1]; exact ⟨rfl, rfl⟩)
  · exact (c_5 (by decide)).elim
set_option maxRecDepth 20000 in
theorem cm_MO_isOpen {E : En} {h : Hp} {m st nw sc : Nat} {c g : Nat → Int32} {B : Bu} {R : List (Nat × (Nat → Int32))} {ni U : Nat} {i : Nat} (hM : MoOk h m st) (nd : (m :: st :: R.map Prod.fst).Nodup) (hG : Gd B nw sc ni U) (hi : i < sc) : CR E m_MO_isOpen [.ref m, .int (nI i)] (wL h ((m, c) :: (st, enc nw sc B g) :: R)) (some (.int (bI (decide (B.2.2 i 12 ≠ 0))))) (wL h ((m, (u1 c 17 0)) :: (st, enc nw sc B g) :: R)) := by
  refine ct_of rfl (by decide +kernel) (Nat.le_of_ble_eq_true rfl) ?_
  show G E m_MO_isOpen 0 [(0, .ref m), (1, .int (nI i))] [] (wL h ((m, c) :: (st, enc nw sc B g) :: R)) 0 0 _ noX
  obtain ⟨k_m, r_m_0, k_st, l_st⟩ := id hM
  obtain ⟨hw, n6, hs, s8, h0, hni, n3, ⟨sd, hsd, hsx⟩, hop⟩ := id hG.1
  refine g_aload_n (pc := 0) d_MO_isOpen_0 rfl 0 rfl ?_
  refine g_iload_n (pc := 1) d_MO_isOpen_1 rfl 1 rfl ?_
  refine g_cV1 (pc := 2) (ci := 7) (As := [.int _]) d_MO_isOpen_2 rfl mv_MO_lacksShop st_MO_isOpen_284 rfl rfl (by decide) rfl rfl (Nat.le_of_ble_eq_true rfl) k_m (cm_MO_lacksShop hM nd hG hi) ?_
  refine g_if_eq (pc := 5) (tgt := 10) d_MO_isOpen_5 (by decide) (fun c_5 => ?_) (fun c_5 => ?_)
  · skip
    refine g_aload_n (pc := 10) d_MO_isOpen_10 rfl 0 rfl ?_
    refine g_iload_n (pc := 11) d_MO_isOpen_11 rfl 1 rfl ?_
    refine g_cV1 (pc := 12) (ci := 7) (As := [.int _]) d_MO_isOpen_12 rfl mv_MO_isOpenShop st_MO_isOpen_115 rfl rfl (by decide) rfl rfl (Nat.le_of_ble_eq_true rfl) k_m (cm_MO_isOpenShop hM nd n6 s8 hi (hG.op hi)) ?_
    refine g_zret (pc := 15) d_MO_isOpen_15 rfl (by first | rfl | exact nar_bI _) ?_
    first | exact ⟨rfl, rfl⟩ | (rw [u1_u1]; exact ⟨rfl, rfl⟩)
  · exact (c_5 (by decide)).elim
set_option maxRecDepth 20000 in
theorem cm_MO_purse {E : En} {h : Hp} {m st nw sc : Nat} {c g : Nat → Int32} {B : Bu} {R : List (Nat × (Nat → Int32))} {ni U : Nat} {i : Nat} (hM : MoOk h m st) (nd : (m :: st :: R.map Prod.fst).Nodup) (hG : Gd B nw sc ni U) (hi : i < sc) : CR E m_MO_purse [.ref m, .int (nI i)] (wL h ((m, c) :: (st, enc nw sc B g) :: R)) (some (.int (B.2.2 i 0))) (wL h ((m, (u1 c 17 0)) :: (st, enc nw sc B g) :: R)) := by
  refine ct_of rfl (by decide +kernel) (Nat.le_of_ble_eq_true rfl) ?_
  show G E m_MO_purse 0 [(0, .ref m), (1, .int (nI i))] [] (wL h ((m, c) :: (st, enc nw sc B g) :: R)) 0 0 _ noX
  obtain ⟨k_m, r_m_0, k_st, l_st⟩ := id hM
  obtain ⟨hw, n6, hs, s8, h0, hni, n3, ⟨sd, hsd, hsx⟩, hop⟩ := id hG.1
  refine g_aload_n (pc := 0) d_MO_purse_0 rfl 0 rfl ?_
  refine g_iload_n (pc := 1) d_MO_purse_1 rfl 1 rfl ?_
  refine g_cV1 (pc := 2) (ci := 7) (As := [.int _]) d_MO_purse_2 rfl mv_MO_lacksShop st_MO_purse_284 rfl rfl (by decide) rfl rfl (Nat.le_of_ble_eq_true rfl) k_m (cm_MO_lacksShop hM nd hG hi) ?_
  refine g_if_eq (pc := 5) (tgt := 10) d_MO_purse_5 (by decide) (fun c_5 => ?_) (fun c_5 => ?_)
  · skip
    refine g_aload_n (pc := 10) d_MO_purse_10 rfl 0 rfl ?_
    refine g_iload_n (pc := 11) d_MO_purse_11 rfl 1 rfl ?_
    refine g_iconst (pc := 12) (v := 0) d_MO_purse_12 (by decide) ?_
    refine g_cV1 (pc := 13) (ci := 7) (As := [.int _, .int _]) d_MO_purse_13 rfl mv_MO_of st_MO_purse_69 rfl rfl (by decide) rfl rfl (Nat.le_of_ble_eq_true rfl) k_m (cm_MO_of (k := 0) hM nd n6 s8 (by first | assumption | omega | decide) (by decide)) ?_
    refine g_iret (pc := 16) d_MO_purse_16 rfl ?_
    first | exact ⟨rfl, rfl⟩ | (rw [u1_u1]; exact ⟨rfl, rfl⟩)
  · exact (c_5 (by decide)).elim
set_option maxRecDepth 20000 in
theorem cm_MO_thumb {E : En} {h : Hp} {m st nw sc : Nat} {c g : Nat → Int32} {B : Bu} {R : List (Nat × (Nat → Int32))} {ni U : Nat} {i : Nat} (hM : MoOk h m st) (nd : (m :: st :: R.map Prod.fst).Nodup) (hG : Gd B nw sc ni U) (hi : i < sc) : CR E m_MO_thumb [.ref m, .int (nI i)] (wL h ((m, c) :: (st, enc nw sc B g) :: R)) (some (.int (B.2.2 i 6))) (wL h ((m, (u1 c 17 0)) :: (st, enc nw sc B g) :: R)) := by
  refine ct_of rfl (by decide +kernel) (Nat.le_of_ble_eq_true rfl) ?_
  show G E m_MO_thumb 0 [(0, .ref m), (1, .int (nI i))] [] (wL h ((m, c) :: (st, enc nw sc B g) :: R)) 0 0 _ noX
  obtain ⟨k_m, r_m_0, k_st, l_st⟩ := id hM
  obtain ⟨hw, n6, hs, s8, h0, hni, n3, ⟨sd, hsd, hsx⟩, hop⟩ := id hG.1
  refine g_aload_n (pc := 0) d_MO_thumb_0 rfl 0 rfl ?_
  refine g_iload_n (pc := 1) d_MO_thumb_1 rfl 1 rfl ?_
  refine g_cV1 (pc := 2) (ci := 7) (As := [.int _]) d_MO_thumb_2 rfl mv_MO_lacksShop st_MO_thumb_284 rfl rfl (by decide) rfl rfl (Nat.le_of_ble_eq_true rfl) k_m (cm_MO_lacksShop hM nd hG hi) ?_
  refine g_if_eq (pc := 5) (tgt := 10) d_MO_thumb_5 (by decide) (fun c_5 => ?_) (fun c_5 => ?_)
  · skip
    refine g_aload_n (pc := 10) d_MO_thumb_10 rfl 0 rfl ?_
    refine g_iload_n (pc := 11) d_MO_thumb_11 rfl 1 rfl ?_
    refine g_bipush (pc := 12) (v := 6) d_MO_thumb_12 (by decide) ?_
    refine g_cV1 (pc := 14) (ci := 7) (As := [.int _, .int _]) d_MO_thumb_14 rfl mv_MO_of st_MO_thumb_69 rfl rfl (by decide) rfl rfl (Nat.le_of_ble_eq_true rfl) k_m (cm_MO_of (k := 6) hM nd n6 s8 (by first | assumption | omega | decide) (by decide)) ?_
    refine g_iret (pc := 17) d_MO_thumb_17 rfl ?_
    first | exact ⟨rfl, rfl⟩ | (rw [u1_u1]; exact ⟨rfl, rfl⟩)
  · exact (c_5 (by decide)).elim
set_option maxRecDepth 20000 in
theorem cm_MO_complaints {E : En} {h : Hp} {m st nw sc : Nat} {c g : Nat → Int32} {B : Bu} {R : List (Nat × (Nat → Int32))} {ni U : Nat} {i : Nat} (hM : MoOk h m st) (nd : (m :: st :: R.map Prod.fst).Nodup) (hG : Gd B nw sc ni U) (hi : i < sc) : CR E m_MO_complaints [.ref m, .int (nI i)] (wL h ((m, c) :: (st, enc nw sc B g) :: R)) (some (.int (B.2.2 i 8))) (wL h ((m, (u1 c 17 0)) :: (st, enc nw sc B g) :: R)) := by
  refine ct_of rfl (by decide +kernel) (Nat.le_of_ble_eq_true rfl) ?_
  show G E m_MO_complaints 0 [(0, .ref m), (1, .int (nI i))] [] (wL h ((m, c) :: (st, enc nw sc B g) :: R)) 0 0 _ noX
  obtain ⟨k_m, r_m_0, k_st, l_st⟩ := id hM
  obtain ⟨hw, n6, hs, s8, h0, hni, n3, ⟨sd, hsd, hsx⟩, hop⟩ := id hG.1
  refine g_aload_n (pc := 0) d_MO_complaints_0 rfl 0 rfl ?_
  refine g_iload_n (pc := 1) d_MO_complaints_1 rfl 1 rfl ?_
  refine g_cV1 (pc := 2) (ci := 7) (As := [.int _]) d_MO_complaints_2 rfl mv_MO_lacksShop st_MO_complaints_284 rfl rfl (by decide) rfl rfl (Nat.le_of_ble_eq_true rfl) k_m (cm_MO_lacksShop hM nd hG hi) ?_
  refine g_if_eq (pc := 5) (tgt := 10) d_MO_complaints_5 (by decide) (fun c_5 => ?_) (fun c_5 => ?_)
  · skip
    refine g_aload_n (pc := 10) d_MO_complaints_10 rfl 0 rfl ?_
    refine g_iload_n (pc := 11) d_MO_complaints_11 rfl 1 rfl ?_
    refine g_bipush (pc := 12) (v := 8) d_MO_complaints_12 (by decide) ?_
    refine g_cV1 (pc := 14) (ci := 7) (As := [.int _, .int _]) d_MO_complaints_14 rfl mv_MO_of st_MO_complaints_69 rfl rfl (by decide) rfl rfl (Nat.le_of_ble_eq_true rfl) k_m (cm_MO_of (k := 8) hM nd n6 s8 (by first | assumption | omega | decide) (by decide)) ?_
    refine g_iret (pc := 17) d_MO_complaints_17 rfl ?_
    first | exact ⟨rfl, rfl⟩ | (rw [u1_u1]; exact ⟨rfl, rfl⟩)
  · exact (c_5 (by decide)).elim
set_option maxRecDepth 20000 in
theorem cm_MO_failures {E : En} {h : Hp} {m st nw sc : Nat} {c g : Nat → Int32} {B : Bu} {R : List (Nat × (Nat → Int32))} {ni U : Nat} {i : Nat} (hM : MoOk h m st) (nd : (m :: st :: R.map Prod.fst).Nodup) (hG : Gd B nw sc ni U) (hi : i < sc) : CR E m_MO_failures [.ref m, .int (nI i)] (wL h ((m, c) :: (st, enc nw sc B g) :: R)) (some (.int (B.2.2 i 9))) (wL h ((m, (u1 c 17 0)) :: (st, enc nw sc B g) :: R)) := by
  refine ct_of rfl (by decide +kernel) (Nat.le_of_ble_eq_true rfl) ?_
  show G E m_MO_failures 0 [(0, .ref m), (1, .int (nI i))] [] (wL h ((m, c) :: (st, enc nw sc B g) :: R)) 0 0 _ noX
  obtain ⟨k_m, r_m_0, k_st, l_st⟩ := id hM
  obtain ⟨hw, n6, hs, s8, h0, hni, n3, ⟨sd, hsd, hsx⟩, hop⟩ := id hG.1
  refine g_aload_n (pc := 0) d_MO_failures_0 rfl 0 rfl ?_
  refine g_iload_n (pc := 1) d_MO_failures_1 rfl 1 rfl ?_
  refine g_cV1 (pc := 2) (ci := 7) (As := [.int _]) d_MO_failures_2 rfl mv_MO_lacksShop st_MO_failures_284 rfl rfl (by decide) rfl rfl (Nat.le_of_ble_eq_true rfl) k_m (cm_MO_lacksShop hM nd hG hi) ?_
  refine g_if_eq (pc := 5) (tgt := 10) d_MO_failures_5 (by decide) (fun c_5 => ?_) (fun c_5 => ?_)
  · skip
    refine g_aload_n (pc := 10) d_MO_failures_10 rfl 0 rfl ?_
    refine g_iload_n (pc := 11) d_MO_failures_11 rfl 1 rfl ?_
    refine g_bipush (pc := 12) (v := 9) d_MO_failures_12 (by decide) ?_
    refine g_cV1 (pc := 14) (ci := 7) (As := [.int _, .int _]) d_MO_failures_14 rfl mv_MO_of st_MO_failures_69 rfl rfl (by decide) rfl rfl (Nat.le_of_ble_eq_true rfl) k_m (cm_MO_of (k := 9) hM nd n6 s8 (by first | assumption | omega | decide) (by decide)) ?_
    refine g_iret (pc := 17) d_MO_failures_17 rfl ?_
    first | exact ⟨rfl, rfl⟩ | (rw [u1_u1]; exact ⟨rfl, rfl⟩)
  · exact (c_5 (by decide)).elim
set_option maxRecDepth 20000 in
theorem cm_MO_latestVisit {E : En} {h : Hp} {m st nw sc : Nat} {c g : Nat → Int32} {B : Bu} {R : List (Nat × (Nat → Int32))} {ni U : Nat} {i : Nat} (hM : MoOk h m st) (nd : (m :: st :: R.map Prod.fst).Nodup) (hG : Gd B nw sc ni U) (hi : i < sc) : CR E m_MO_latestVisit [.ref m, .int (nI i)] (wL h ((m, c) :: (st, enc nw sc B g) :: R)) (some (.int (B.2.2 i 10))) (wL h ((m, (u1 c 17 0)) :: (st, enc nw sc B g) :: R)) := by
  refine ct_of rfl (by decide +kernel) (Nat.le_of_ble_eq_true rfl) ?_
  show G E m_MO_latestVisit 0 [(0, .ref m), (1, .int (nI i))] [] (wL h ((m, c) :: (st, enc nw sc B g) :: R)) 0 0 _ noX
  obtain ⟨k_m, r_m_0, k_st, l_st⟩ := id hM
  obtain ⟨hw, n6, hs, s8, h0, hni, n3, ⟨sd, hsd, hsx⟩, hop⟩ := id hG.1
  refine g_aload_n (pc := 0) d_MO_latestVisit_0 rfl 0 rfl ?_
  refine g_iload_n (pc := 1) d_MO_latestVisit_1 rfl 1 rfl ?_
  refine g_cV1 (pc := 2) (ci := 7) (As := [.int _]) d_MO_latestVisit_2 rfl mv_MO_lacksShop st_MO_latestVisit_284 rfl rfl (by decide) rfl rfl (Nat.le_of_ble_eq_true rfl) k_m (cm_MO_lacksShop hM nd hG hi) ?_
  refine g_if_eq (pc := 5) (tgt := 10) d_MO_latestVisit_5 (by decide) (fun c_5 => ?_) (fun c_5 => ?_)
  · skip
    refine g_aload_n (pc := 10) d_MO_latestVisit_10 rfl 0 rfl ?_
    refine g_iload_n (pc := 11) d_MO_latestVisit_11 rfl 1 rfl ?_
    refine g_bipush (pc := 12) (v := 10) d_MO_latestVisit_12 (by decide) ?_
    refine g_cV1 (pc := 14) (ci := 7) (As := [.int _, .int _]) d_MO_latestVisit_14 rfl mv_MO_of st_MO_latestVisit_69 rfl rfl (by decide) rfl rfl (Nat.le_of_ble_eq_true rfl) k_m (cm_MO_of (k := 10) hM nd n6 s8 (by first | assumption | omega | decide) (by decide)) ?_
    refine g_iret (pc := 17) d_MO_latestVisit_17 rfl ?_
    first | exact ⟨rfl, rfl⟩ | (rw [u1_u1]; exact ⟨rfl, rfl⟩)
  · exact (c_5 (by decide)).elim
set_option maxRecDepth 20000 in
theorem cm_MO_finesOf {E : En} {h : Hp} {m st nw sc : Nat} {c g : Nat → Int32} {B : Bu} {R : List (Nat × (Nat → Int32))} {ni U : Nat} {i : Nat} (hM : MoOk h m st) (nd : (m :: st :: R.map Prod.fst).Nodup) (hG : Gd B nw sc ni U) (hi : i < sc) : CR E m_MO_finesOf [.ref m, .int (nI i)] (wL h ((m, c) :: (st, enc nw sc B g) :: R)) (some (.int (B.2.2 i 13))) (wL h ((m, (u1 c 17 0)) :: (st, enc nw sc B g) :: R)) := by
  refine ct_of rfl (by decide +kernel) (Nat.le_of_ble_eq_true rfl) ?_
  show G E m_MO_finesOf 0 [(0, .ref m), (1, .int (nI i))] [] (wL h ((m, c) :: (st, enc nw sc B g) :: R)) 0 0 _ noX
  obtain ⟨k_m, r_m_0, k_st, l_st⟩ := id hM
  obtain ⟨hw, n6, hs, s8, h0, hni, n3, ⟨sd, hsd, hsx⟩, hop⟩ := id hG.1
  refine g_aload_n (pc := 0) d_MO_finesOf_0 rfl 0 rfl ?_
  refine g_iload_n (pc := 1) d_MO_finesOf_1 rfl 1 rfl ?_
  refine g_cV1 (pc := 2) (ci := 7) (As := [.int _]) d_MO_finesOf_2 rfl mv_MO_lacksShop st_MO_finesOf_284 rfl rfl (by decide) rfl rfl (Nat.le_of_ble_eq_true rfl) k_m (cm_MO_lacksShop hM nd hG hi) ?_
  refine g_if_eq (pc := 5) (tgt := 10) d_MO_finesOf_5 (by decide) (fun c_5 => ?_) (fun c_5 => ?_)
  · skip
    refine g_aload_n (pc := 10) d_MO_finesOf_10 rfl 0 rfl ?_
    refine g_iload_n (pc := 11) d_MO_finesOf_11 rfl 1 rfl ?_
    refine g_bipush (pc := 12) (v := 13) d_MO_finesOf_12 (by decide) ?_
    refine g_cV1 (pc := 14) (ci := 7) (As := [.int _, .int _]) d_MO_finesOf_14 rfl mv_MO_of st_MO_finesOf_69 rfl rfl (by decide) rfl rfl (Nat.le_of_ble_eq_true rfl) k_m (cm_MO_of (k := 13) hM nd n6 s8 (by first | assumption | omega | decide) (by decide)) ?_
    refine g_iret (pc := 17) d_MO_finesOf_17 rfl ?_
    first | exact ⟨rfl, rfl⟩ | (rw [u1_u1]; exact ⟨rfl, rfl⟩)
  · exact (c_5 (by decide)).elim
set_option maxRecDepth 20000 in
theorem cm_MO_gainsOf {E : En} {h : Hp} {m st nw sc : Nat} {c g : Nat → Int32} {B : Bu} {R : List (Nat × (Nat → Int32))} {ni U : Nat} {i : Nat} (hM : MoOk h m st) (nd : (m :: st :: R.map Prod.fst).Nodup) (hG : Gd B nw sc ni U) (hi : i < sc) : CR E m_MO_gainsOf [.ref m, .int (nI i)] (wL h ((m, c) :: (st, enc nw sc B g) :: R)) (some (.int (B.2.2 i 14))) (wL h ((m, (u1 c 17 0)) :: (st, enc nw sc B g) :: R)) := by
  refine ct_of rfl (by decide +kernel) (Nat.le_of_ble_eq_true rfl) ?_
  show G E m_MO_gainsOf 0 [(0, .ref m), (1, .int (nI i))] [] (wL h ((m, c) :: (st, enc nw sc B g) :: R)) 0 0 _ noX
  obtain ⟨k_m, r_m_0, k_st, l_st⟩ := id hM
  obtain ⟨hw, n6, hs, s8, h0, hni, n3, ⟨sd, hsd, hsx⟩, hop⟩ := id hG.1
  refine g_aload_n (pc := 0) d_MO_gainsOf_0 rfl 0 rfl ?_
  refine g_iload_n (pc := 1) d_MO_gainsOf_1 rfl 1 rfl ?_
  refine g_cV1 (pc := 2) (ci := 7) (As := [.int _]) d_MO_gainsOf_2 rfl mv_MO_lacksShop st_MO_gainsOf_284 rfl rfl (by decide) rfl rfl (Nat.le_of_ble_eq_true rfl) k_m (cm_MO_lacksShop hM nd hG hi) ?_
  refine g_if_eq (pc := 5) (tgt := 10) d_MO_gainsOf_5 (by decide) (fun c_5 => ?_) (fun c_5 => ?_)
  · skip
    refine g_aload_n (pc := 10) d_MO_gainsOf_10 rfl 0 rfl ?_
    refine g_iload_n (pc := 11) d_MO_gainsOf_11 rfl 1 rfl ?_
    refine g_bipush (pc := 12) (v := 14) d_MO_gainsOf_12 (by decide) ?_
    refine g_cV1 (pc := 14) (ci := 7) (As := [.int _, .int _]) d_MO_gainsOf_14 rfl mv_MO_of st_MO_gainsOf_69 rfl rfl (by decide) rfl rfl (Nat.le_of_ble_eq_true rfl) k_m (cm_MO_of (k := 14) hM nd n6 s8 (by first | assumption | omega | decide) (by decide)) ?_
    refine g_iret (pc := 17) d_MO_gainsOf_17 rfl ?_
    first | exact ⟨rfl, rfl⟩ | (rw [u1_u1]; exact ⟨rfl, rfl⟩)
  · exact (c_5 (by decide)).elim
set_option maxRecDepth 20000 in
theorem cm_MO_usesThumb {E : En} {h : Hp} {m st nw sc : Nat} {c g : Nat → Int32} {B : Bu} {R : List (Nat × (Nat → Int32))} {ni U : Nat} {i : Nat} (hM : MoOk h m st) (nd : (m :: st :: R.map Prod.fst).Nodup) (hG : Gd B nw sc ni U) (hi : i < sc) : CR E m_MO_usesThumb [.ref m, .int (nI i)] (wL h ((m, c) :: (st, enc nw sc B g) :: R)) (some (.int (bI (M_uses (B.2.2 i) (B.1 9 + 1))))) (wL h ((m, (u1 c 17 0)) :: (st, enc nw sc B g) :: R)) := by
  refine ct_of rfl (by decide +kernel) (Nat.le_of_ble_eq_true rfl) ?_
  show G E m_MO_usesThumb 0 [(0, .ref m), (1, .int (nI i))] [] (wL h ((m, c) :: (st, enc nw sc B g) :: R)) 0 0 _ noX
  obtain ⟨k_m, r_m_0, k_st, l_st⟩ := id hM
  obtain ⟨hw, n6, hs, s8, h0, hni, n3, ⟨sd, hsd, hsx⟩, hop⟩ := id hG.1
  refine g_aload_n (pc := 0) d_MO_usesThumb_0 rfl 0 rfl ?_
  refine g_iload_n (pc := 1) d_MO_usesThumb_1 rfl 1 rfl ?_
  refine g_cV1 (pc := 2) (ci := 7) (As := [.int _]) d_MO_usesThumb_2 rfl mv_MO_lacksShop st_MO_usesThumb_284 rfl rfl (by decide) rfl rfl (Nat.le_of_ble_eq_true rfl) k_m (cm_MO_lacksShop hM nd hG hi) ?_
  refine g_if_eq (pc := 5) (tgt := 10) d_MO_usesThumb_5 (by decide) (fun c_5 => ?_) (fun c_5 => ?_)
  · skip
    refine g_aload_n (pc := 10) d_MO_usesThumb_10 rfl 0 rfl ?_
    refine g_iload_n (pc := 11) d_MO_usesThumb_11 rfl 1 rfl ?_
    refine g_aload_n (pc := 12) d_MO_usesThumb_12 rfl 0 rfl ?_
    refine g_getR (pc := 13) (ci := 7) (f := 0) (b := st) rfl r_m_0 d_MO_usesThumb_13 fl_MO_7 (by decide) k_m ?_
    refine g_bipush (pc := 16) (v := 9) d_MO_usesThumb_16 (by decide) ?_
    refine g_mI (pc := 18) (k := 9) d_MO_usesThumb_18 k_st l_st (by decide) nd ?_
    refine g_iconst (pc := 19) (v := 1) d_MO_usesThumb_19 (by decide) ?_
    refine g_iadd (pc := 20) d_MO_usesThumb_20 ?_
    refine g_cV1 (pc := 21) (ci := 7) (As := [.int _, .int _]) d_MO_usesThumb_21 rfl mv_MO_usesOn st_MO_usesThumb_86 rfl rfl (by decide) rfl rfl (Nat.le_of_ble_eq_true rfl) k_m (cm_MO_usesOn hM nd n6 s8 (by first | assumption | omega | decide)) ?_
    refine g_zret (pc := 24) d_MO_usesThumb_24 rfl (by first | rfl | exact nar_bI _) ?_
    first | exact ⟨rfl, rfl⟩ | (rw [u1_u1]; exact ⟨rfl, rfl⟩)
  · exact (c_5 (by decide)).elim
set_option maxRecDepth 20000 in
theorem cm_MO_fineIfVisited {E : En} {h : Hp} {m st nw sc : Nat} {c g : Nat → Int32} {B : Bu} {R : List (Nat × (Nat → Int32))} {ni U : Nat} {i : Nat} (hM : MoOk h m st) (nd : (m :: st :: R.map Prod.fst).Nodup) (hG : Gd B nw sc ni U) (hi : i < sc) : CR E m_MO_fineIfVisited [.ref m, .int (nI i)] (wL h ((m, c) :: (st, enc nw sc B g) :: R)) (some (.int (M_fine B.1 (M_tot B.1 B.2.1 (B.2.2 i) nw) (M_stamped (B.2.2 i) (B.1 9))))) (wL h ((m, (u1 c 17 0)) :: (st, enc nw sc B g) :: R)) := by
  refine ct_of rfl (by decide +kernel) (Nat.le_of_ble_eq_true rfl) ?_
  show G E m_MO_fineIfVisited 0 [(0, .ref m), (1, .int (nI i))] [] (wL h ((m, c) :: (st, enc nw sc B g) :: R)) 0 0 _ noX
  obtain ⟨k_m, r_m_0, k_st, l_st⟩ := id hM
  obtain ⟨hw, n6, hs, s8, h0, hni, n3, ⟨sd, hsd, hsx⟩, hop⟩ := id hG.1
  refine g_aload_n (pc := 0) d_MO_fineIfVisited_0 rfl 0 rfl ?_
  refine g_iload_n (pc := 1) d_MO_fineIfVisited_1 rfl 1 rfl ?_
  refine g_cV1 (pc := 2) (ci := 7) (As := [.int _]) d_MO_fineIfVisited_2 rfl mv_MO_lacksShop st_MO_fineIfVisited_284 rfl rfl (by decide) rfl rfl (Nat.le_of_ble_eq_true rfl) k_m (cm_MO_lacksShop hM nd hG hi) ?_
  refine g_if_eq (pc := 5) (tgt := 10) d_MO_fineIfVisited_5 (by decide) (fun c_5 => ?_) (fun c_5 => ?_)
  · skip
    refine g_aload_n (pc := 10) d_MO_fineIfVisited_10 rfl 0 rfl ?_
    refine g_iload_n (pc := 11) d_MO_fineIfVisited_11 rfl 1 rfl ?_
    refine g_cV1 (pc := 12) (ci := 7) (As := [.int _]) d_MO_fineIfVisited_12 rfl mv_MO_fineFor st_MO_fineIfVisited_112 rfl rfl (by decide) rfl rfl (Nat.le_of_ble_eq_true rfl) k_m (cm_MO_fineFor hM nd n6 s8 (by first | assumption | omega | decide) hw) ?_
    refine g_iret (pc := 15) d_MO_fineIfVisited_15 rfl ?_
    first | exact ⟨rfl, rfl⟩ | (rw [u1_u1]; exact ⟨rfl, rfl⟩)
  · exact (c_5 (by decide)).elim
set_option maxRecDepth 20000 in
theorem cm_MO_whyFail {E : En} {h : Hp} {m st nw sc : Nat} {c g : Nat → Int32} {B : Bu} {R : List (Nat × (Nat → Int32))} {ni U : Nat} {i : Nat} (hM : MoOk h m st) (nd : (m :: st :: R.map Prod.fst).Nodup) (hG : Gd B nw sc ni U) (hi : i < sc) : CR E m_MO_whyFail [.ref m, .int (nI i)] (wL h ((m, c) :: (st, enc nw sc B g) :: R)) (some (.int (M_why (M_tot B.1 B.2.1 (B.2.2 i) nw) (M_stamped (B.2.2 i) (B.1 9))))) (wL h ((m, (u1 c 17 0)) :: (st, enc nw sc B g) :: R)) := by
  refine ct_of rfl (by decide +kernel) (Nat.le_of_ble_eq_true rfl) ?_
  show G E m_MO_whyFail 0 [(0, .ref m), (1, .int (nI i))] [] (wL h ((m, c) :: (st, enc nw sc B g) :: R)) 0 0 _ noX
  obtain ⟨k_m, r_m_0, k_st, l_st⟩ := id hM
  obtain ⟨hw, n6, hs, s8, h0, hni, n3, ⟨sd, hsd, hsx⟩, hop⟩ := id hG.1
  refine g_aload_n (pc := 0) d_MO_whyFail_0 rfl 0 rfl ?_
  refine g_iload_n (pc := 1) d_MO_whyFail_1 rfl 1 rfl ?_
  refine g_cV1 (pc := 2) (ci := 7) (As := [.int _]) d_MO_whyFail_2 rfl mv_MO_lacksShop st_MO_whyFail_284 rfl rfl (by decide) rfl rfl (Nat.le_of_ble_eq_true rfl) k_m (cm_MO_lacksShop hM nd hG hi) ?_
  refine g_if_eq (pc := 5) (tgt := 10) d_MO_whyFail_5 (by decide) (fun c_5 => ?_) (fun c_5 => ?_)
  · skip
    refine g_aload_n (pc := 10) d_MO_whyFail_10 rfl 0 rfl ?_
    refine g_iload_n (pc := 11) d_MO_whyFail_11 rfl 1 rfl ?_
    refine g_cV1 (pc := 12) (ci := 7) (As := [.int _]) d_MO_whyFail_12 rfl mv_MO_failReason st_MO_whyFail_106 rfl rfl (by decide) rfl rfl (Nat.le_of_ble_eq_true rfl) k_m (cm_MO_failReason hM nd n6 s8 (by first | assumption | omega | decide) hw) ?_
    refine g_iret (pc := 15) d_MO_whyFail_15 rfl ?_
    first | exact ⟨rfl, rfl⟩ | (rw [u1_u1]; exact ⟨rfl, rfl⟩)
  · exact (c_5 (by decide)).elim
set_option maxRecDepth 20000 in
theorem cm_MO_ounces {E : En} {h : Hp} {m st nw sc : Nat} {c g : Nat → Int32} {B : Bu} {R : List (Nat × (Nat → Int32))} {ni U : Nat} {i : Nat} (hM : MoOk h m st) (nd : (m :: st :: R.map Prod.fst).Nodup) (hG : Gd B nw sc ni U) (hi : i < sc) : CR E m_MO_ounces [.ref m, .int (nI i)] (wL h ((m, c) :: (st, enc nw sc B g) :: R)) (some (.int (M_ounces (M_tot B.1 B.2.1 (B.2.2 i) nw)))) (wL h ((m, (u1 c 17 0)) :: (st, enc nw sc B g) :: R)) := by
  refine ct_of rfl (by decide +kernel) (Nat.le_of_ble_eq_true rfl) ?_
  show G E m_MO_ounces 0 [(0, .ref m), (1, .int (nI i))] [] (wL h ((m, c) :: (st, enc nw sc B g) :: R)) 0 0 _ noX
  obtain ⟨k_m, r_m_0, k_st, l_st⟩ := id hM
  obtain ⟨hw, n6, hs, s8, h0, hni, n3, ⟨sd, hsd, hsx⟩, hop⟩ := id hG.1
  refine g_aload_n (pc := 0) d_MO_ounces_0 rfl 0 rfl ?_
  refine g_iload_n (pc := 1) d_MO_ounces_1 rfl 1 rfl ?_
  refine g_cV1 (pc := 2) (ci := 7) (As := [.int _]) d_MO_ounces_2 rfl mv_MO_lacksShop st_MO_ounces_284 rfl rfl (by decide) rfl rfl (Nat.le_of_ble_eq_true rfl) k_m (cm_MO_lacksShop hM nd hG hi) ?_
  refine g_if_eq (pc := 5) (tgt := 10) d_MO_ounces_5 (by decide) (fun c_5 => ?_) (fun c_5 => ?_)
  · skip
    refine g_aload_n (pc := 10) d_MO_ounces_10 rfl 0 rfl ?_
    refine g_iload_n (pc := 11) d_MO_ounces_11 rfl 1 rfl ?_
    refine g_cV1 (pc := 12) (ci := 7) (As := [.int _]) d_MO_ounces_12 rfl mv_MO_ouncesOf st_MO_ounces_109 rfl rfl (by decide) rfl rfl (Nat.le_of_ble_eq_true rfl) k_m (cm_MO_ouncesOf hM nd n6 s8 (by first | assumption | omega | decide) hw) ?_
    refine g_iret (pc := 15) d_MO_ounces_15 rfl ?_
    first | exact ⟨rfl, rfl⟩ | (rw [u1_u1]; exact ⟨rfl, rfl⟩)
  · exact (c_5 (by decide)).elim
set_option maxRecDepth 20000 in
theorem cm_MO_offsetN {E : En} {h : Hp} {m st nw sc : Nat} {c g : Nat → Int32} {B : Bu} {R : List (Nat × (Nat → Int32))} {ni U : Nat} {v : Int32} (hM : MoOk h m st) (nd : (m :: st :: R.map Prod.fst).Nodup) (hG : Gd B nw sc ni U) (hv : v < 0 ∨ nI sc ≤ v) : CR E m_MO_offset [.ref m, .int v] (wL h ((m, c) :: (st, enc nw sc B g) :: R)) (some (.int 0)) (wL h ((m, (u1 c 17 1)) :: (st, enc nw sc B g) :: R)) := by
  refine ct_of rfl (by decide +kernel) (Nat.le_of_ble_eq_true rfl) ?_
  show G E m_MO_offset 0 [(0, .ref m), (1, .int v)] [] (wL h ((m, c) :: (st, enc nw sc B g) :: R)) 0 0 _ noX
  obtain ⟨k_m, r_m_0, k_st, l_st⟩ := id hM
  obtain ⟨hw, n6, hs, s8, h0, hni, n3, ⟨sd, hsd, hsx⟩, hop⟩ := id hG.1
  refine g_aload_n (pc := 0) d_MO_offset_0 rfl 0 rfl ?_
  refine g_iload_n (pc := 1) d_MO_offset_1 rfl 1 rfl ?_
  refine g_cV1 (pc := 2) (ci := 7) (As := [.int _]) d_MO_offset_2 rfl mv_MO_lacksShop st_MO_offset_284 rfl rfl (by decide) rfl rfl (Nat.le_of_ble_eq_true rfl) k_m (cm_MO_lacksShopN hM nd hG hv) ?_
  refine g_if_eq (pc := 5) (tgt := 10) d_MO_offset_5 (by decide) (fun c_5 => ?_) (fun c_5 => ?_)
  · exact absurd c_5 (by decide)
  · skip
    refine g_iconst (pc := 8) (v := 0) d_MO_offset_8 (by decide) ?_
    refine g_iret (pc := 9) d_MO_offset_9 rfl ?_
    first | exact ⟨rfl, rfl⟩ | (rw [u1_u1]; exact ⟨rfl, rfl⟩)
set_option maxRecDepth 20000 in
theorem cm_MO_slopeN {E : En} {h : Hp} {m st nw sc : Nat} {c g : Nat → Int32} {B : Bu} {R : List (Nat × (Nat → Int32))} {ni U : Nat} {v : Int32} (hM : MoOk h m st) (nd : (m :: st :: R.map Prod.fst).Nodup) (hG : Gd B nw sc ni U) (hv : v < 0 ∨ nI sc ≤ v) : CR E m_MO_slope [.ref m, .int v] (wL h ((m, c) :: (st, enc nw sc B g) :: R)) (some (.int 0)) (wL h ((m, (u1 c 17 1)) :: (st, enc nw sc B g) :: R)) := by
  refine ct_of rfl (by decide +kernel) (Nat.le_of_ble_eq_true rfl) ?_
  show G E m_MO_slope 0 [(0, .ref m), (1, .int v)] [] (wL h ((m, c) :: (st, enc nw sc B g) :: R)) 0 0 _ noX
  obtain ⟨k_m, r_m_0, k_st, l_st⟩ := id hM
  obtain ⟨hw, n6, hs, s8, h0, hni, n3, ⟨sd, hsd, hsx⟩, hop⟩ := id hG.1
  refine g_aload_n (pc := 0) d_MO_slope_0 rfl 0 rfl ?_
  refine g_iload_n (pc := 1) d_MO_slope_1 rfl 1 rfl ?_
  refine g_cV1 (pc := 2) (ci := 7) (As := [.int _]) d_MO_slope_2 rfl mv_MO_lacksShop st_MO_slope_284 rfl rfl (by decide) rfl rfl (Nat.le_of_ble_eq_true rfl) k_m (cm_MO_lacksShopN hM nd hG hv) ?_
  refine g_if_eq (pc := 5) (tgt := 10) d_MO_slope_5 (by decide) (fun c_5 => ?_) (fun c_5 => ?_)
  · exact absurd c_5 (by decide)
  · skip
    refine g_iconst (pc := 8) (v := 0) d_MO_slope_8 (by decide) ?_
    refine g_iret (pc := 9) d_MO_slope_9 rfl ?_
    first | exact ⟨rfl, rfl⟩ | (rw [u1_u1]; exact ⟨rfl, rfl⟩)
set_option maxRecDepth 20000 in
theorem cm_MO_driftN {E : En} {h : Hp} {m st nw sc : Nat} {c g : Nat → Int32} {B : Bu} {R : List (Nat × (Nat → Int32))} {ni U : Nat} {v : Int32} (hM : MoOk h m st) (nd : (m :: st :: R.map Prod.fst).Nodup) (hG : Gd B nw sc ni U) (hv : v < 0 ∨ nI sc ≤ v) : CR E m_MO_drift [.ref m, .int v] (wL h ((m, c) :: (st, enc nw sc B g) :: R)) (some (.int 0)) (wL h ((m, (u1 c 17 1)) :: (st, enc nw sc B g) :: R)) := by
  refine ct_of rfl (by decide +kernel) (Nat.le_of_ble_eq_true rfl) ?_
  show G E m_MO_drift 0 [(0, .ref m), (1, .int v)] [] (wL h ((m, c) :: (st, enc nw sc B g) :: R)) 0 0 _ noX
  obtain ⟨k_m, r_m_0, k_st, l_st⟩ := id hM
  obtain ⟨hw, n6, hs, s8, h0, hni, n3, ⟨sd, hsd, hsx⟩, hop⟩ := id hG.1
  refine g_aload_n (pc := 0) d_MO_drift_0 rfl 0 rfl ?_
  refine g_iload_n (pc := 1) d_MO_drift_1 rfl 1 rfl ?_
  refine g_cV1 (pc := 2) (ci := 7) (As := [.int _]) d_MO_drift_2 rfl mv_MO_lacksShop st_MO_drift_284 rfl rfl (by decide) rfl rfl (Nat.le_of_ble_eq_true rfl) k_m (cm_MO_lacksShopN hM nd hG hv) ?_
  refine g_if_eq (pc := 5) (tgt := 10) d_MO_drift_5 (by decide) (fun c_5 => ?_) (fun c_5 => ?_)
  · exact absurd c_5 (by decide)
  · skip
    refine g_iconst (pc := 8) (v := 0) d_MO_drift_8 (by decide) ?_
    refine g_iret (pc := 9) d_MO_drift_9 rfl ?_
    first | exact ⟨rfl, rfl⟩ | (rw [u1_u1]; exact ⟨rfl, rfl⟩)
set_option maxRecDepth 20000 in
theorem cm_MO_totalExcessN {E : En} {h : Hp} {m st nw sc : Nat} {c g : Nat → Int32} {B : Bu} {R : List (Nat × (Nat → Int32))} {ni U : Nat} {v : Int32} (hM : MoOk h m st) (nd : (m :: st :: R.map Prod.fst).Nodup) (hG : Gd B nw sc ni U) (hv : v < 0 ∨ nI sc ≤ v) : CR E m_MO_totalExcess [.ref m, .int v] (wL h ((m, c) :: (st, enc nw sc B g) :: R)) (some (.int 0)) (wL h ((m, (u1 c 17 1)) :: (st, enc nw sc B g) :: R)) := by
  refine ct_of rfl (by decide +kernel) (Nat.le_of_ble_eq_true rfl) ?_
  show G E m_MO_totalExcess 0 [(0, .ref m), (1, .int v)] [] (wL h ((m, c) :: (st, enc nw sc B g) :: R)) 0 0 _ noX
  obtain ⟨k_m, r_m_0, k_st, l_st⟩ := id hM
  obtain ⟨hw, n6, hs, s8, h0, hni, n3, ⟨sd, hsd, hsx⟩, hop⟩ := id hG.1
  refine g_aload_n (pc := 0) d_MO_totalExcess_0 rfl 0 rfl ?_
  refine g_iload_n (pc := 1) d_MO_totalExcess_1 rfl 1 rfl ?_
  refine g_cV1 (pc := 2) (ci := 7) (As := [.int _]) d_MO_totalExcess_2 rfl mv_MO_lacksShop st_MO_totalExcess_284 rfl rfl (by decide) rfl rfl (Nat.le_of_ble_eq_true rfl) k_m (cm_MO_lacksShopN hM nd hG hv) ?_
  refine g_if_eq (pc := 5) (tgt := 10) d_MO_totalExcess_5 (by decide) (fun c_5 => ?_) (fun c_5 => ?_)
  · exact absurd c_5 (by decide)
  · skip
    refine g_iconst (pc := 8) (v := 0) d_MO_totalExcess_8 (by decide) ?_
    refine g_iret (pc := 9) d_MO_totalExcess_9 rfl ?_
    first | exact ⟨rfl, rfl⟩ | (rw [u1_u1]; exact ⟨rfl, rfl⟩)
set_option maxRecDepth 20000 in
theorem cm_MO_isTrueN {E : En} {h : Hp} {m st nw sc : Nat} {c g : Nat → Int32} {B : Bu} {R : List (Nat × (Nat → Int32))} {ni U : Nat} {v : Int32} (hM : MoOk h m st) (nd : (m :: st :: R.map Prod.fst).Nodup) (hG : Gd B nw sc ni U) (hv : v < 0 ∨ nI sc ≤ v) : CR E m_MO_isTrue [.ref m, .int v] (wL h ((m, c) :: (st, enc nw sc B g) :: R)) (some (.int 0)) (wL h ((m, (u1 c 17 1)) :: (st, enc nw sc B g) :: R)) := by
  refine ct_of rfl (by decide +kernel) (Nat.le_of_ble_eq_true rfl) ?_
  show G E m_MO_isTrue 0 [(0, .ref m), (1, .int v)] [] (wL h ((m, c) :: (st, enc nw sc B g) :: R)) 0 0 _ noX
  obtain ⟨k_m, r_m_0, k_st, l_st⟩ := id hM
  obtain ⟨hw, n6, hs, s8, h0, hni, n3, ⟨sd, hsd, hsx⟩, hop⟩ := id hG.1
  refine g_aload_n (pc := 0) d_MO_isTrue_0 rfl 0 rfl ?_
  refine g_iload_n (pc := 1) d_MO_isTrue_1 rfl 1 rfl ?_
  refine g_cV1 (pc := 2) (ci := 7) (As := [.int _]) d_MO_isTrue_2 rfl mv_MO_lacksShop st_MO_isTrue_284 rfl rfl (by decide) rfl rfl (Nat.le_of_ble_eq_true rfl) k_m (cm_MO_lacksShopN hM nd hG hv) ?_
  refine g_if_eq (pc := 5) (tgt := 10) d_MO_isTrue_5 (by decide) (fun c_5 => ?_) (fun c_5 => ?_)
  · exact absurd c_5 (by decide)
  · skip
    refine g_iconst (pc := 8) (v := 0) d_MO_isTrue_8 (by decide) ?_
    refine g_zret (pc := 9) d_MO_isTrue_9 rfl (by first | rfl | exact nar_bI _) ?_
    first | exact ⟨rfl, rfl⟩ | (rw [u1_u1]; exact ⟨rfl, rfl⟩)
set_option maxRecDepth 20000 in
theorem cm_MO_stampedUntilN {E : En} {h : Hp} {m st nw sc : Nat} {c g : Nat → Int32} {B : Bu} {R : List (Nat × (Nat → Int32))} {ni U : Nat} {v : Int32} (hM : MoOk h m st) (nd : (m :: st :: R.map Prod.fst).Nodup) (hG : Gd B nw sc ni U) (hv : v < 0 ∨ nI sc ≤ v) : CR E m_MO_stampedUntil [.ref m, .int v] (wL h ((m, c) :: (st, enc nw sc B g) :: R)) (some (.int 0)) (wL h ((m, (u1 c 17 1)) :: (st, enc nw sc B g) :: R)) := by
  refine ct_of rfl (by decide +kernel) (Nat.le_of_ble_eq_true rfl) ?_
  show G E m_MO_stampedUntil 0 [(0, .ref m), (1, .int v)] [] (wL h ((m, c) :: (st, enc nw sc B g) :: R)) 0 0 _ noX
  obtain ⟨k_m, r_m_0, k_st, l_st⟩ := id hM
  obtain ⟨hw, n6, hs, s8, h0, hni, n3, ⟨sd, hsd, hsx⟩, hop⟩ := id hG.1
  refine g_aload_n (pc := 0) d_MO_stampedUntil_0 rfl 0 rfl ?_
  refine g_iload_n (pc := 1) d_MO_stampedUntil_1 rfl 1 rfl ?_
  refine g_cV1 (pc := 2) (ci := 7) (As := [.int _]) d_MO_stampedUntil_2 rfl mv_MO_lacksShop st_MO_stampedUntil_284 rfl rfl (by decide) rfl rfl (Nat.le_of_ble_eq_true rfl) k_m (cm_MO_lacksShopN hM nd hG hv) ?_
  refine g_if_eq (pc := 5) (tgt := 10) d_MO_stampedUntil_5 (by decide) (fun c_5 => ?_) (fun c_5 => ?_)
  · exact absurd c_5 (by decide)
  · skip
    refine g_iconst (pc := 8) (v := 0) d_MO_stampedUntil_8 (by decide) ?_
    refine g_iret (pc := 9) d_MO_stampedUntil_9 rfl ?_
    first | exact ⟨rfl, rfl⟩ | (rw [u1_u1]; exact ⟨rfl, rfl⟩)
set_option maxRecDepth 20000 in
theorem cm_MO_isStampedN {E : En} {h : Hp} {m st nw sc : Nat} {c g : Nat → Int32} {B : Bu} {R : List (Nat × (Nat → Int32))} {ni U : Nat} {v : Int32} (hM : MoOk h m st) (nd : (m :: st :: R.map Prod.fst).Nodup) (hG : Gd B nw sc ni U) (hv : v < 0 ∨ nI sc ≤ v) : CR E m_MO_isStamped [.ref m, .int v] (wL h ((m, c) :: (st, enc nw sc B g) :: R)) (some (.int 0)) (wL h ((m, (u1 c 17 1)) :: (st, enc nw sc B g) :: R)) := by
  refine ct_of rfl (by decide +kernel) (Nat.le_of_ble_eq_true rfl) ?_
  show G E m_MO_isStamped 0 [(0, .ref m), (1, .int v)] [] (wL h ((m, c) :: (st, enc nw sc B g) :: R)) 0 0 _ noX
  obtain ⟨k_m, r_m_0, k_st, l_st⟩ := id hM
  obtain ⟨hw, n6, hs, s8, h0, hni, n3, ⟨sd, hsd, hsx⟩, hop⟩ := id hG.1
  refine g_aload_n (pc := 0) d_MO_isStamped_0 rfl 0 rfl ?_
  refine g_iload_n (pc := 1) d_MO_isStamped_1 rfl 1 rfl ?_
  refine g_cV1 (pc := 2) (ci := 7) (As := [.int _]) d_MO_isStamped_2 rfl mv_MO_lacksShop st_MO_isStamped_284 rfl rfl (by decide) rfl rfl (Nat.le_of_ble_eq_true rfl) k_m (cm_MO_lacksShopN hM nd hG hv) ?_
  refine g_if_eq (pc := 5) (tgt := 10) d_MO_isStamped_5 (by decide) (fun c_5 => ?_) (fun c_5 => ?_)
  · exact absurd c_5 (by decide)
  · skip
    refine g_iconst (pc := 8) (v := 0) d_MO_isStamped_8 (by decide) ?_
    refine g_zret (pc := 9) d_MO_isStamped_9 rfl (by first | rfl | exact nar_bI _) ?_
    first | exact ⟨rfl, rfl⟩ | (rw [u1_u1]; exact ⟨rfl, rfl⟩)
set_option maxRecDepth 20000 in
theorem cm_MO_isOpenN {E : En} {h : Hp} {m st nw sc : Nat} {c g : Nat → Int32} {B : Bu} {R : List (Nat × (Nat → Int32))} {ni U : Nat} {v : Int32} (hM : MoOk h m st) (nd : (m :: st :: R.map Prod.fst).Nodup) (hG : Gd B nw sc ni U) (hv : v < 0 ∨ nI sc ≤ v) : CR E m_MO_isOpen [.ref m, .int v] (wL h ((m, c) :: (st, enc nw sc B g) :: R)) (some (.int 0)) (wL h ((m, (u1 c 17 1)) :: (st, enc nw sc B g) :: R)) := by
  refine ct_of rfl (by decide +kernel) (Nat.le_of_ble_eq_true rfl) ?_
  show G E m_MO_isOpen 0 [(0, .ref m), (1, .int v)] [] (wL h ((m, c) :: (st, enc nw sc B g) :: R)) 0 0 _ noX
  obtain ⟨k_m, r_m_0, k_st, l_st⟩ := id hM
  obtain ⟨hw, n6, hs, s8, h0, hni, n3, ⟨sd, hsd, hsx⟩, hop⟩ := id hG.1
  refine g_aload_n (pc := 0) d_MO_isOpen_0 rfl 0 rfl ?_
  refine g_iload_n (pc := 1) d_MO_isOpen_1 rfl 1 rfl ?_
  refine g_cV1 (pc := 2) (ci := 7) (As := [.int _]) d_MO_isOpen_2 rfl mv_MO_lacksShop st_MO_isOpen_284 rfl rfl (by decide) rfl rfl (Nat.le_of_ble_eq_true rfl) k_m (cm_MO_lacksShopN hM nd hG hv) ?_
  refine g_if_eq (pc := 5) (tgt := 10) d_MO_isOpen_5 (by decide) (fun c_5 => ?_) (fun c_5 => ?_)
  · exact absurd c_5 (by decide)
  · skip
    refine g_iconst (pc := 8) (v := 0) d_MO_isOpen_8 (by decide) ?_
    refine g_zret (pc := 9) d_MO_isOpen_9 rfl (by first | rfl | exact nar_bI _) ?_
    first | exact ⟨rfl, rfl⟩ | (rw [u1_u1]; exact ⟨rfl, rfl⟩)
set_option maxRecDepth 20000 in
theorem cm_MO_purseN {E : En} {h : Hp} {m st nw sc : Nat} {c g : Nat → Int32} {B : Bu} {R : List (Nat × (Nat → Int32))} {ni U : Nat} {v : Int32} (hM : MoOk h m st) (nd : (m :: st :: R.map Prod.fst).Nodup) (hG : Gd B nw sc ni U) (hv : v < 0 ∨ nI sc ≤ v) : CR E m_MO_purse [.ref m, .int v] (wL h ((m, c) :: (st, enc nw sc B g) :: R)) (some (.int 0)) (wL h ((m, (u1 c 17 1)) :: (st, enc nw sc B g) :: R)) := by
  refine ct_of rfl (by decide +kernel) (Nat.le_of_ble_eq_true rfl) ?_
  show G E m_MO_purse 0 [(0, .ref m), (1, .int v)] [] (wL h ((m, c) :: (st, enc nw sc B g) :: R)) 0 0 _ noX
  obtain ⟨k_m, r_m_0, k_st, l_st⟩ := id hM
  obtain ⟨hw, n6, hs, s8, h0, hni, n3, ⟨sd, hsd, hsx⟩, hop⟩ := id hG.1
  refine g_aload_n (pc := 0) d_MO_purse_0 rfl 0 rfl ?_
  refine g_iload_n (pc := 1) d_MO_purse_1 rfl 1 rfl ?_
  refine g_cV1 (pc := 2) (ci := 7) (As := [.int _]) d_MO_purse_2 rfl mv_MO_lacksShop st_MO_purse_284 rfl rfl (by decide) rfl rfl (Nat.le_of_ble_eq_true rfl) k_m (cm_MO_lacksShopN hM nd hG hv) ?_
  refine g_if_eq (pc := 5) (tgt := 10) d_MO_purse_5 (by decide) (fun c_5 => ?_) (fun c_5 => ?_)
  · exact absurd c_5 (by decide)
  · skip
    refine g_iconst (pc := 8) (v := 0) d_MO_purse_8 (by decide) ?_
    refine g_iret (pc := 9) d_MO_purse_9 rfl ?_
    first | exact ⟨rfl, rfl⟩ | (rw [u1_u1]; exact ⟨rfl, rfl⟩)
set_option maxRecDepth 20000 in
theorem cm_MO_thumbN {E : En} {h : Hp} {m st nw sc : Nat} {c g : Nat → Int32} {B : Bu} {R : List (Nat × (Nat → Int32))} {ni U : Nat} {v : Int32} (hM : MoOk h m st) (nd : (m :: st :: R.map Prod.fst).Nodup) (hG : Gd B nw sc ni U) (hv : v < 0 ∨ nI sc ≤ v) : CR E m_MO_thumb [.ref m, .int v] (wL h ((m, c) :: (st, enc nw sc B g) :: R)) (some (.int 0)) (wL h ((m, (u1 c 17 1)) :: (st, enc nw sc B g) :: R)) := by
  refine ct_of rfl (by decide +kernel) (Nat.le_of_ble_eq_true rfl) ?_
  show G E m_MO_thumb 0 [(0, .ref m), (1, .int v)] [] (wL h ((m, c) :: (st, enc nw sc B g) :: R)) 0 0 _ noX
  obtain ⟨k_m, r_m_0, k_st, l_st⟩ := id hM
  obtain ⟨hw, n6, hs, s8, h0, hni, n3, ⟨sd, hsd, hsx⟩, hop⟩ := id hG.1
  refine g_aload_n (pc := 0) d_MO_thumb_0 rfl 0 rfl ?_
  refine g_iload_n (pc := 1) d_MO_thumb_1 rfl 1 rfl ?_
  refine g_cV1 (pc := 2) (ci := 7) (As := [.int _]) d_MO_thumb_2 rfl mv_MO_lacksShop st_MO_thumb_284 rfl rfl (by decide) rfl rfl (Nat.le_of_ble_eq_true rfl) k_m (cm_MO_lacksShopN hM nd hG hv) ?_
  refine g_if_eq (pc := 5) (tgt := 10) d_MO_thumb_5 (by decide) (fun c_5 => ?_) (fun c_5 => ?_)
  · exact absurd c_5 (by decide)
  · skip
    refine g_iconst (pc := 8) (v := 0) d_MO_thumb_8 (by decide) ?_
    refine g_iret (pc := 9) d_MO_thumb_9 rfl ?_
    first | exact ⟨rfl, rfl⟩ | (rw [u1_u1]; exact ⟨rfl, rfl⟩)
set_option maxRecDepth 20000 in
theorem cm_MO_complaintsN {E : En} {h : Hp} {m st nw sc : Nat} {c g : Nat → Int32} {B : Bu} {R : List (Nat × (Nat → Int32))} {ni U : Nat} {v : Int32} (hM : MoOk h m st) (nd : (m :: st :: R.map Prod.fst).Nodup) (hG : Gd B nw sc ni U) (hv : v < 0 ∨ nI sc ≤ v) : CR E m_MO_complaints [.ref m, .int v] (wL h ((m, c) :: (st, enc nw sc B g) :: R)) (some (.int 0)) (wL h ((m, (u1 c 17 1)) :: (st, enc nw sc B g) :: R)) := by
  refine ct_of rfl (by decide +kernel) (Nat.le_of_ble_eq_true rfl) ?_
  show G E m_MO_complaints 0 [(0, .ref m), (1, .int v)] [] (wL h ((m, c) :: (st, enc nw sc B g) :: R)) 0 0 _ noX
  obtain ⟨k_m, r_m_0, k_st, l_st⟩ := id hM
  obtain ⟨hw, n6, hs, s8, h0, hni, n3, ⟨sd, hsd, hsx⟩, hop⟩ := id hG.1
  refine g_aload_n (pc := 0) d_MO_complaints_0 rfl 0 rfl ?_
  refine g_iload_n (pc := 1) d_MO_complaints_1 rfl 1 rfl ?_
  refine g_cV1 (pc := 2) (ci := 7) (As := [.int _]) d_MO_complaints_2 rfl mv_MO_lacksShop st_MO_complaints_284 rfl rfl (by decide) rfl rfl (Nat.le_of_ble_eq_true rfl) k_m (cm_MO_lacksShopN hM nd hG hv) ?_
  refine g_if_eq (pc := 5) (tgt := 10) d_MO_complaints_5 (by decide) (fun c_5 => ?_) (fun c_5 => ?_)
  · exact absurd c_5 (by decide)
  · skip
    refine g_iconst (pc := 8) (v := 0) d_MO_complaints_8 (by decide) ?_
    refine g_iret (pc := 9) d_MO_complaints_9 rfl ?_
    first | exact ⟨rfl, rfl⟩ | (rw [u1_u1]; exact ⟨rfl, rfl⟩)
set_option maxRecDepth 20000 in
theorem cm_MO_failuresN {E : En} {h : Hp} {m st nw sc : Nat} {c g : Nat → Int32} {B : Bu} {R : List (Nat × (Nat → Int32))} {ni U : Nat} {v : Int32} (hM : MoOk h m st) (nd : (m :: st :: R.map Prod.fst).Nodup) (hG : Gd B nw sc ni U) (hv : v < 0 ∨ nI sc ≤ v) : CR E m_MO_failures [.ref m, .int v] (wL h ((m, c) :: (st, enc nw sc B g) :: R)) (some (.int 0)) (wL h ((m, (u1 c 17 1)) :: (st, enc nw sc B g) :: R)) := by
  refine ct_of rfl (by decide +kernel) (Nat.le_of_ble_eq_true rfl) ?_
  show G E m_MO_failures 0 [(0, .ref m), (1, .int v)] [] (wL h ((m, c) :: (st, enc nw sc B g) :: R)) 0 0 _ noX
  obtain ⟨k_m, r_m_0, k_st, l_st⟩ := id hM
  obtain ⟨hw, n6, hs, s8, h0, hni, n3, ⟨sd, hsd, hsx⟩, hop⟩ := id hG.1
  refine g_aload_n (pc := 0) d_MO_failures_0 rfl 0 rfl ?_
  refine g_iload_n (pc := 1) d_MO_failures_1 rfl 1 rfl ?_
  refine g_cV1 (pc := 2) (ci := 7) (As := [.int _]) d_MO_failures_2 rfl mv_MO_lacksShop st_MO_failures_284 rfl rfl (by decide) rfl rfl (Nat.le_of_ble_eq_true rfl) k_m (cm_MO_lacksShopN hM nd hG hv) ?_
  refine g_if_eq (pc := 5) (tgt := 10) d_MO_failures_5 (by decide) (fun c_5 => ?_) (fun c_5 => ?_)
  · exact absurd c_5 (by decide)
  · skip
    refine g_iconst (pc := 8) (v := 0) d_MO_failures_8 (by decide) ?_
    refine g_iret (pc := 9) d_MO_failures_9 rfl ?_
    first | exact ⟨rfl, rfl⟩ | (rw [u1_u1]; exact ⟨rfl, rfl⟩)
set_option maxRecDepth 20000 in
theorem cm_MO_latestVisitN {E : En} {h : Hp} {m st nw sc : Nat} {c g : Nat → Int32} {B : Bu} {R : List (Nat × (Nat → Int32))} {ni U : Nat} {v : Int32} (hM : MoOk h m st) (nd : (m :: st :: R.map Prod.fst).Nodup) (hG : Gd B nw sc ni U) (hv : v < 0 ∨ nI sc ≤ v) : CR E m_MO_latestVisit [.ref m, .int v] (wL h ((m, c) :: (st, enc nw sc B g) :: R)) (some (.int 0)) (wL h ((m, (u1 c 17 1)) :: (st, enc nw sc B g) :: R)) := by
  refine ct_of rfl (by decide +kernel) (Nat.le_of_ble_eq_true rfl) ?_
  show G E m_MO_latestVisit 0 [(0, .ref m), (1, .int v)] [] (wL h ((m, c) :: (st, enc nw sc B g) :: R)) 0 0 _ noX
  obtain ⟨k_m, r_m_0, k_st, l_st⟩ := id hM
  obtain ⟨hw, n6, hs, s8, h0, hni, n3, ⟨sd, hsd, hsx⟩, hop⟩ := id hG.1
  refine g_aload_n (pc := 0) d_MO_latestVisit_0 rfl 0 rfl ?_
  refine g_iload_n (pc := 1) d_MO_latestVisit_1 rfl 1 rfl ?_
  refine g_cV1 (pc := 2) (ci := 7) (As := [.int _]) d_MO_latestVisit_2 rfl mv_MO_lacksShop st_MO_latestVisit_284 rfl rfl (by decide) rfl rfl (Nat.le_of_ble_eq_true rfl) k_m (cm_MO_lacksShopN hM nd hG hv) ?_
  refine g_if_eq (pc := 5) (tgt := 10) d_MO_latestVisit_5 (by decide) (fun c_5 => ?_) (fun c_5 => ?_)
  · exact absurd c_5 (by decide)
  · skip
    refine g_iconst (pc := 8) (v := 0) d_MO_latestVisit_8 (by decide) ?_
    refine g_iret (pc := 9) d_MO_latestVisit_9 rfl ?_
    first | exact ⟨rfl, rfl⟩ | (rw [u1_u1]; exact ⟨rfl, rfl⟩)
set_option maxRecDepth 20000 in
theorem cm_MO_finesOfN {E : En} {h : Hp} {m st nw sc : Nat} {c g : Nat → Int32} {B : Bu} {R : List (Nat × (Nat → Int32))} {ni U : Nat} {v : Int32} (hM : MoOk h m st) (nd : (m :: st :: R.map Prod.fst).Nodup) (hG : Gd B nw sc ni U) (hv : v < 0 ∨ nI sc ≤ v) : CR E m_MO_finesOf [.ref m, .int v] (wL h ((m, c) :: (st, enc nw sc B g) :: R)) (some (.int 0)) (wL h ((m, (u1 c 17 1)) :: (st, enc nw sc B g) :: R)) := by
  refine ct_of rfl (by decide +kernel) (Nat.le_of_ble_eq_true rfl) ?_
  show G E m_MO_finesOf 0 [(0, .ref m), (1, .int v)] [] (wL h ((m, c) :: (st, enc nw sc B g) :: R)) 0 0 _ noX
  obtain ⟨k_m, r_m_0, k_st, l_st⟩ := id hM
  obtain ⟨hw, n6, hs, s8, h0, hni, n3, ⟨sd, hsd, hsx⟩, hop⟩ := id hG.1
  refine g_aload_n (pc := 0) d_MO_finesOf_0 rfl 0 rfl ?_
  refine g_iload_n (pc := 1) d_MO_finesOf_1 rfl 1 rfl ?_
  refine g_cV1 (pc := 2) (ci := 7) (As := [.int _]) d_MO_finesOf_2 rfl mv_MO_lacksShop st_MO_finesOf_284 rfl rfl (by decide) rfl rfl (Nat.le_of_ble_eq_true rfl) k_m (cm_MO_lacksShopN hM nd hG hv) ?_
  refine g_if_eq (pc := 5) (tgt := 10) d_MO_finesOf_5 (by decide) (fun c_5 => ?_) (fun c_5 => ?_)
  · exact absurd c_5 (by decide)
  · skip
    refine g_iconst (pc := 8) (v := 0) d_MO_finesOf_8 (by decide) ?_
    refine g_iret (pc := 9) d_MO_finesOf_9 rfl ?_
    first | exact ⟨rfl, rfl⟩ | (rw [u1_u1]; exact ⟨rfl, rfl⟩)
set_option maxRecDepth 20000 in
theorem cm_MO_gainsOfN {E : En} {h : Hp} {m st nw sc : Nat} {c g : Nat → Int32} {B : Bu} {R : List (Nat × (Nat → Int32))} {ni U : Nat} {v : Int32} (hM : MoOk h m st) (nd : (m :: st :: R.map Prod.fst).Nodup) (hG : Gd B nw sc ni U) (hv : v < 0 ∨ nI sc ≤ v) : CR E m_MO_gainsOf [.ref m, .int v] (wL h ((m, c) :: (st, enc nw sc B g) :: R)) (some (.int 0)) (wL h ((m, (u1 c 17 1)) :: (st, enc nw sc B g) :: R)) := by
  refine ct_of rfl (by decide +kernel) (Nat.le_of_ble_eq_true rfl) ?_
  show G E m_MO_gainsOf 0 [(0, .ref m), (1, .int v)] [] (wL h ((m, c) :: (st, enc nw sc B g) :: R)) 0 0 _ noX
  obtain ⟨k_m, r_m_0, k_st, l_st⟩ := id hM
  obtain ⟨hw, n6, hs, s8, h0, hni, n3, ⟨sd, hsd, hsx⟩, hop⟩ := id hG.1
  refine g_aload_n (pc := 0) d_MO_gainsOf_0 rfl 0 rfl ?_
  refine g_iload_n (pc := 1) d_MO_gainsOf_1 rfl 1 rfl ?_
  refine g_cV1 (pc := 2) (ci := 7) (As := [.int _]) d_MO_gainsOf_2 rfl mv_MO_lacksShop st_MO_gainsOf_284 rfl rfl (by decide) rfl rfl (Nat.le_of_ble_eq_true rfl) k_m (cm_MO_lacksShopN hM nd hG hv) ?_
  refine g_if_eq (pc := 5) (tgt := 10) d_MO_gainsOf_5 (by decide) (fun c_5 => ?_) (fun c_5 => ?_)
  · exact absurd c_5 (by decide)
  · skip
    refine g_iconst (pc := 8) (v := 0) d_MO_gainsOf_8 (by decide) ?_
    refine g_iret (pc := 9) d_MO_gainsOf_9 rfl ?_
    first | exact ⟨rfl, rfl⟩ | (rw [u1_u1]; exact ⟨rfl, rfl⟩)
set_option maxRecDepth 20000 in
theorem cm_MO_usesThumbN {E : En} {h : Hp} {m st nw sc : Nat} {c g : Nat → Int32} {B : Bu} {R : List (Nat × (Nat → Int32))} {ni U : Nat} {v : Int32} (hM : MoOk h m st) (nd : (m :: st :: R.map Prod.fst).Nodup) (hG : Gd B nw sc ni U) (hv : v < 0 ∨ nI sc ≤ v) : CR E m_MO_usesThumb [.ref m, .int v] (wL h ((m, c) :: (st, enc nw sc B g) :: R)) (some (.int 0)) (wL h ((m, (u1 c 17 1)) :: (st, enc nw sc B g) :: R)) := by
  refine ct_of rfl (by decide +kernel) (Nat.le_of_ble_eq_true rfl) ?_
  show G E m_MO_usesThumb 0 [(0, .ref m), (1, .int v)] [] (wL h ((m, c) :: (st, enc nw sc B g) :: R)) 0 0 _ noX
  obtain ⟨k_m, r_m_0, k_st, l_st⟩ := id hM
  obtain ⟨hw, n6, hs, s8, h0, hni, n3, ⟨sd, hsd, hsx⟩, hop⟩ := id hG.1
  refine g_aload_n (pc := 0) d_MO_usesThumb_0 rfl 0 rfl ?_
  refine g_iload_n (pc := 1) d_MO_usesThumb_1 rfl 1 rfl ?_
  refine g_cV1 (pc := 2) (ci := 7) (As := [.int _]) d_MO_usesThumb_2 rfl mv_MO_lacksShop st_MO_usesThumb_284 rfl rfl (by decide) rfl rfl (Nat.le_of_ble_eq_true rfl) k_m (cm_MO_lacksShopN hM nd hG hv) ?_
  refine g_if_eq (pc := 5) (tgt := 10) d_MO_usesThumb_5 (by decide) (fun c_5 => ?_) (fun c_5 => ?_)
  · exact absurd c_5 (by decide)
  · skip
    refine g_iconst (pc := 8) (v := 0) d_MO_usesThumb_8 (by decide) ?_
    refine g_zret (pc := 9) d_MO_usesThumb_9 rfl (by first | rfl | exact nar_bI _) ?_
    first | exact ⟨rfl, rfl⟩ | (rw [u1_u1]; exact ⟨rfl, rfl⟩)
set_option maxRecDepth 20000 in
theorem cm_MO_fineIfVisitedN {E : En} {h : Hp} {m st nw sc : Nat} {c g : Nat → Int32} {B : Bu} {R : List (Nat × (Nat → Int32))} {ni U : Nat} {v : Int32} (hM : MoOk h m st) (nd : (m :: st :: R.map Prod.fst).Nodup) (hG : Gd B nw sc ni U) (hv : v < 0 ∨ nI sc ≤ v) : CR E m_MO_fineIfVisited [.ref m, .int v] (wL h ((m, c) :: (st, enc nw sc B g) :: R)) (some (.int 0)) (wL h ((m, (u1 c 17 1)) :: (st, enc nw sc B g) :: R)) := by
  refine ct_of rfl (by decide +kernel) (Nat.le_of_ble_eq_true rfl) ?_
  show G E m_MO_fineIfVisited 0 [(0, .ref m), (1, .int v)] [] (wL h ((m, c) :: (st, enc nw sc B g) :: R)) 0 0 _ noX
  obtain ⟨k_m, r_m_0, k_st, l_st⟩ := id hM
  obtain ⟨hw, n6, hs, s8, h0, hni, n3, ⟨sd, hsd, hsx⟩, hop⟩ := id hG.1
  refine g_aload_n (pc := 0) d_MO_fineIfVisited_0 rfl 0 rfl ?_
  refine g_iload_n (pc := 1) d_MO_fineIfVisited_1 rfl 1 rfl ?_
  refine g_cV1 (pc := 2) (ci := 7) (As := [.int _]) d_MO_fineIfVisited_2 rfl mv_MO_lacksShop st_MO_fineIfVisited_284 rfl rfl (by decide) rfl rfl (Nat.le_of_ble_eq_true rfl) k_m (cm_MO_lacksShopN hM nd hG hv) ?_
  refine g_if_eq (pc := 5) (tgt := 10) d_MO_fineIfVisited_5 (by decide) (fun c_5 => ?_) (fun c_5 => ?_)
  · exact absurd c_5 (by decide)
  · skip
    refine g_iconst (pc := 8) (v := 0) d_MO_fineIfVisited_8 (by decide) ?_
    refine g_iret (pc := 9) d_MO_fineIfVisited_9 rfl ?_
    first | exact ⟨rfl, rfl⟩ | (rw [u1_u1]; exact ⟨rfl, rfl⟩)
set_option maxRecDepth 20000 in
theorem cm_MO_whyFailN {E : En} {h : Hp} {m st nw sc : Nat} {c g : Nat → Int32} {B : Bu} {R : List (Nat × (Nat → Int32))} {ni U : Nat} {v : Int32} (hM : MoOk h m st) (nd : (m :: st :: R.map Prod.fst).Nodup) (hG : Gd B nw sc ni U) (hv : v < 0 ∨ nI sc ≤ v) : CR E m_MO_whyFail [.ref m, .int v] (wL h ((m, c) :: (st, enc nw sc B g) :: R)) (some (.int 0)) (wL h ((m, (u1 c 17 1)) :: (st, enc nw sc B g) :: R)) := by
  refine ct_of rfl (by decide +kernel) (Nat.le_of_ble_eq_true rfl) ?_
  show G E m_MO_whyFail 0 [(0, .ref m), (1, .int v)] [] (wL h ((m, c) :: (st, enc nw sc B g) :: R)) 0 0 _ noX
  obtain ⟨k_m, r_m_0, k_st, l_st⟩ := id hM
  obtain ⟨hw, n6, hs, s8, h0, hni, n3, ⟨sd, hsd, hsx⟩, hop⟩ := id hG.1
  refine g_aload_n (pc := 0) d_MO_whyFail_0 rfl 0 rfl ?_
  refine g_iload_n (pc := 1) d_MO_whyFail_1 rfl 1 rfl ?_
  refine g_cV1 (pc := 2) (ci := 7) (As := [.int _]) d_MO_whyFail_2 rfl mv_MO_lacksShop st_MO_whyFail_284 rfl rfl (by decide) rfl rfl (Nat.le_of_ble_eq_true rfl) k_m (cm_MO_lacksShopN hM nd hG hv) ?_
  refine g_if_eq (pc := 5) (tgt := 10) d_MO_whyFail_5 (by decide) (fun c_5 => ?_) (fun c_5 => ?_)
  · exact absurd c_5 (by decide)
  · skip
    refine g_iconst (pc := 8) (v := 0) d_MO_whyFail_8 (by decide) ?_
    refine g_iret (pc := 9) d_MO_whyFail_9 rfl ?_
    first | exact ⟨rfl, rfl⟩ | (rw [u1_u1]; exact ⟨rfl, rfl⟩)
set_option maxRecDepth 20000 in
theorem cm_MO_ouncesN {E : En} {h : Hp} {m st nw sc : Nat} {c g : Nat → Int32} {B : Bu} {R : List (Nat × (Nat → Int32))} {ni U : Nat} {v : Int32} (hM : MoOk h m st) (nd : (m :: st :: R.map Prod.fst).Nodup) (hG : Gd B nw sc ni U) (hv : v < 0 ∨ nI sc ≤ v) : CR E m_MO_ounces [.ref m, .int v] (wL h ((m, c) :: (st, enc nw sc B g) :: R)) (some (.int 0)) (wL h ((m, (u1 c 17 1)) :: (st, enc nw sc B g) :: R)) := by
  refine ct_of rfl (by decide +kernel) (Nat.le_of_ble_eq_true rfl) ?_
  show G E m_MO_ounces 0 [(0, .ref m), (1, .int v)] [] (wL h ((m, c) :: (st, enc nw sc B g) :: R)) 0 0 _ noX
  obtain ⟨k_m, r_m_0, k_st, l_st⟩ := id hM
  obtain ⟨hw, n6, hs, s8, h0, hni, n3, ⟨sd, hsd, hsx⟩, hop⟩ := id hG.1
  refine g_aload_n (pc := 0) d_MO_ounces_0 rfl 0 rfl ?_
  refine g_iload_n (pc := 1) d_MO_ounces_1 rfl 1 rfl ?_
  refine g_cV1 (pc := 2) (ci := 7) (As := [.int _]) d_MO_ounces_2 rfl mv_MO_lacksShop st_MO_ounces_284 rfl rfl (by decide) rfl rfl (Nat.le_of_ble_eq_true rfl) k_m (cm_MO_lacksShopN hM nd hG hv) ?_
  refine g_if_eq (pc := 5) (tgt := 10) d_MO_ounces_5 (by decide) (fun c_5 => ?_) (fun c_5 => ?_)
  · exact absurd c_5 (by decide)
  · skip
    refine g_iconst (pc := 8) (v := 0) d_MO_ounces_8 (by decide) ?_
    refine g_iret (pc := 9) d_MO_ounces_9 rfl ?_
    first | exact ⟨rfl, rfl⟩ | (rw [u1_u1]; exact ⟨rfl, rfl⟩)
set_option maxRecDepth 20000 in
theorem cm_MO_worstWeightN {E : En} {h : Hp} {m st nw sc : Nat} {c g : Nat → Int32} {B : Bu} {R : List (Nat × (Nat → Int32))} {ni U : Nat} {v : Int32} (hM : MoOk h m st) (nd : (m :: st :: R.map Prod.fst).Nodup) (hG : Gd B nw sc ni U) (hv : v < 0 ∨ nI sc ≤ v) : CR E m_MO_worstWeight [.ref m, .int v] (wL h ((m, c) :: (st, enc nw sc B g) :: R)) (some (.int 0)) (wL h ((m, (u1 c 17 1)) :: (st, enc nw sc B g) :: R)) := by
  refine ct_of rfl (by decide +kernel) (Nat.le_of_ble_eq_true rfl) ?_
  show G E m_MO_worstWeight 0 [(0, .ref m), (1, .int v)] [] (wL h ((m, c) :: (st, enc nw sc B g) :: R)) 0 0 _ noX
  obtain ⟨k_m, r_m_0, k_st, l_st⟩ := id hM
  obtain ⟨hw, n6, hs, s8, h0, hni, n3, ⟨sd, hsd, hsx⟩, hop⟩ := id hG.1
  refine g_aload_n (pc := 0) d_MO_worstWeight_0 rfl 0 rfl ?_
  refine g_iload_n (pc := 1) d_MO_worstWeight_1 rfl 1 rfl ?_
  refine g_cV1 (pc := 2) (ci := 7) (As := [.int _]) d_MO_worstWeight_2 rfl mv_MO_lacksShop st_MO_worstWeight_284 rfl rfl (by decide) rfl rfl (Nat.le_of_ble_eq_true rfl) k_m (cm_MO_lacksShopN hM nd hG hv) ?_
  refine g_if_eq (pc := 5) (tgt := 10) d_MO_worstWeight_5 (by decide) (fun c_5 => ?_) (fun c_5 => ?_)
  · exact absurd c_5 (by decide)
  · skip
    refine g_iconst (pc := 8) (v := 0) d_MO_worstWeight_8 (by decide) ?_
    refine g_iret (pc := 9) d_MO_worstWeight_9 rfl ?_
    first | exact ⟨rfl, rfl⟩ | (rw [u1_u1]; exact ⟨rfl, rfl⟩)
set_option maxRecDepth 20000 in
theorem cm_MO_nextGainN {E : En} {h : Hp} {m st nw sc : Nat} {c g : Nat → Int32} {B : Bu} {R : List (Nat × (Nat → Int32))} {ni U : Nat} {v : Int32} (hM : MoOk h m st) (nd : (m :: st :: R.map Prod.fst).Nodup) (hG : Gd B nw sc ni U) (hv : v < 0 ∨ nI sc ≤ v) : CR E m_MO_nextGain [.ref m, .int v] (wL h ((m, c) :: (st, enc nw sc B g) :: R)) (some (.int 0)) (wL h ((m, (u1 c 17 1)) :: (st, enc nw sc B g) :: R)) := by
  refine ct_of rfl (by decide +kernel) (Nat.le_of_ble_eq_true rfl) ?_
  show G E m_MO_nextGain 0 [(0, .ref m), (1, .int v)] [] (wL h ((m, c) :: (st, enc nw sc B g) :: R)) 0 0 _ noX
  obtain ⟨k_m, r_m_0, k_st, l_st⟩ := id hM
  obtain ⟨hw, n6, hs, s8, h0, hni, n3, ⟨sd, hsd, hsx⟩, hop⟩ := id hG.1
  refine g_aload_n (pc := 0) d_MO_nextGain_0 rfl 0 rfl ?_
  refine g_iload_n (pc := 1) d_MO_nextGain_1 rfl 1 rfl ?_
  refine g_cV1 (pc := 2) (ci := 7) (As := [.int _]) d_MO_nextGain_2 rfl mv_MO_lacksShop st_MO_nextGain_284 rfl rfl (by decide) rfl rfl (Nat.le_of_ble_eq_true rfl) k_m (cm_MO_lacksShopN hM nd hG hv) ?_
  refine g_if_eq (pc := 5) (tgt := 10) d_MO_nextGain_5 (by decide) (fun c_5 => ?_) (fun c_5 => ?_)
  · exact absurd c_5 (by decide)
  · skip
    refine g_iconst (pc := 8) (v := 0) d_MO_nextGain_8 (by decide) ?_
    refine g_iret (pc := 9) d_MO_nextGain_9 rfl ?_
    first | exact ⟨rfl, rfl⟩ | (rw [u1_u1]; exact ⟨rfl, rfl⟩)
set_option maxRecDepth 20000 in
theorem cm_MO_daysUntilFalseN {E : En} {h : Hp} {m st nw sc : Nat} {c g : Nat → Int32} {B : Bu} {R : List (Nat × (Nat → Int32))} {ni U : Nat} {v : Int32} (hM : MoOk h m st) (nd : (m :: st :: R.map Prod.fst).Nodup) (hG : Gd B nw sc ni U) (hv : v < 0 ∨ nI sc ≤ v) : CR E m_MO_daysUntilFalse [.ref m, .int v] (wL h ((m, c) :: (st, enc nw sc B g) :: R)) (some (.int 0)) (wL h ((m, (u1 c 17 1)) :: (st, enc nw sc B g) :: R)) := by
  refine ct_of rfl (by decide +kernel) (Nat.le_of_ble_eq_true rfl) ?_
  show G E m_MO_daysUntilFalse 0 [(0, .ref m), (1, .int v)] [] (wL h ((m, c) :: (st, enc nw sc B g) :: R)) 0 0 _ noX
  obtain ⟨k_m, r_m_0, k_st, l_st⟩ := id hM
  obtain ⟨hw, n6, hs, s8, h0, hni, n3, ⟨sd, hsd, hsx⟩, hop⟩ := id hG.1
  refine g_aload_n (pc := 0) d_MO_daysUntilFalse_0 rfl 0 rfl ?_
  refine g_iload_n (pc := 1) d_MO_daysUntilFalse_1 rfl 1 rfl ?_
  refine g_cV1 (pc := 2) (ci := 7) (As := [.int _]) d_MO_daysUntilFalse_2 rfl mv_MO_lacksShop st_MO_daysUntilFalse_284 rfl rfl (by decide) rfl rfl (Nat.le_of_ble_eq_true rfl) k_m (cm_MO_lacksShopN hM nd hG hv) ?_
  refine g_if_eq (pc := 5) (tgt := 10) d_MO_daysUntilFalse_5 (by decide) (fun c_5 => ?_) (fun c_5 => ?_)
  · exact absurd c_5 (by decide)
  · skip
    refine g_iconst (pc := 8) (v := 0) d_MO_daysUntilFalse_8 (by decide) ?_
    refine g_iret (pc := 9) d_MO_daysUntilFalse_9 rfl ?_
    first | exact ⟨rfl, rfl⟩ | (rw [u1_u1]; exact ⟨rfl, rfl⟩)
set_option maxRecDepth 20000 in
theorem cm_MO_daysUntilClosedN {E : En} {h : Hp} {m st nw sc : Nat} {c g : Nat → Int32} {B : Bu} {R : List (Nat × (Nat → Int32))} {ni U : Nat} {v : Int32} (hM : MoOk h m st) (nd : (m :: st :: R.map Prod.fst).Nodup) (hG : Gd B nw sc ni U) (hv : v < 0 ∨ nI sc ≤ v) : CR E m_MO_daysUntilClosed [.ref m, .int v] (wL h ((m, c) :: (st, enc nw sc B g) :: R)) (some (.int 0)) (wL h ((m, (u1 c 17 1)) :: (st, enc nw sc B g) :: R)) := by
  refine ct_of rfl (by decide +kernel) (Nat.le_of_ble_eq_true rfl) ?_
  show G E m_MO_daysUntilClosed 0 [(0, .ref m), (1, .int v)] [] (wL h ((m, c) :: (st, enc nw sc B g) :: R)) 0 0 _ noX
  obtain ⟨k_m, r_m_0, k_st, l_st⟩ := id hM
  obtain ⟨hw, n6, hs, s8, h0, hni, n3, ⟨sd, hsd, hsx⟩, hop⟩ := id hG.1
  refine g_aload_n (pc := 0) d_MO_daysUntilClosed_0 rfl 0 rfl ?_
  refine g_iload_n (pc := 1) d_MO_daysUntilClosed_1 rfl 1 rfl ?_
  refine g_cV1 (pc := 2) (ci := 7) (As := [.int _]) d_MO_daysUntilClosed_2 rfl mv_MO_lacksShop st_MO_daysUntilClosed_284 rfl rfl (by decide) rfl rfl (Nat.le_of_ble_eq_true rfl) k_m (cm_MO_lacksShopN hM nd hG hv) ?_
  refine g_if_eq (pc := 5) (tgt := 10) d_MO_daysUntilClosed_5 (by decide) (fun c_5 => ?_) (fun c_5 => ?_)
  · exact absurd c_5 (by decide)
  · skip
    refine g_iconst (pc := 8) (v := 0) d_MO_daysUntilClosed_8 (by decide) ?_
    refine g_iret (pc := 9) d_MO_daysUntilClosed_9 rfl ?_
    first | exact ⟨rfl, rfl⟩ | (rw [u1_u1]; exact ⟨rfl, rfl⟩)
set_option maxRecDepth 20000 in
theorem cm_MO_reading {E : En} {h : Hp} {m st nw sc : Nat} {c g : Nat → Int32} {B : Bu} {R : List (Nat × (Nat → Int32))} {ni U : Nat} {i : Nat} {x : Int32} (hM : MoOk h m st) (nd : (m :: st :: R.map Prod.fst).Nodup) (hG : Gd B nw sc ni U) (hi : i < sc) (hr1 : 1 ≤ x) (hr2 : x ≤ 5000) : CR E m_MO_reading [.ref m, .int (nI i), .int x] (wL h ((m, c) :: (st, enc nw sc B g) :: R)) (some (.int (x + M_err (B.2.2 i) x))) (wL h ((m, (u1 c 17 0)) :: (st, enc nw sc B g) :: R)) := by
  refine ct_of rfl (by decide +kernel) (Nat.le_of_ble_eq_true rfl) ?_
  show G E m_MO_reading 0 [(0, .ref m), (1, .int (nI i)), (2, .int x)] [] (wL h ((m, c) :: (st, enc nw sc B g) :: R)) 0 0 _ noX
  obtain ⟨k_m, r_m_0, k_st, l_st⟩ := id hM
  obtain ⟨hw, n6, hs, s8, h0, hni, n3, ⟨sd, hsd, hsx⟩, hop⟩ := id hG.1
  refine g_aload_n (pc := 0) d_MO_reading_0 rfl 0 rfl ?_
  refine g_iload_n (pc := 1) d_MO_reading_1 rfl 1 rfl ?_
  refine g_iload_n (pc := 2) d_MO_reading_2 rfl 2 rfl ?_
  refine g_cV1 (pc := 3) (ci := 7) (As := [.int _, .int _]) d_MO_reading_3 rfl mv_MO_lacksGrams st_MO_reading_290 rfl rfl (by decide) rfl rfl (Nat.le_of_ble_eq_true rfl) k_m (cm_MO_lacksGrams hM nd hG hi hr1 hr2) ?_
  refine g_if_eq (pc := 6) (tgt := 11) d_MO_reading_6 (by decide) (fun c_6 => ?_) (fun c_6 => ?_)
  · skip
    refine g_iload_n (pc := 11) d_MO_reading_11 rfl 2 rfl ?_
    refine g_aload_n (pc := 12) d_MO_reading_12 rfl 0 rfl ?_
    refine g_iload_n (pc := 13) d_MO_reading_13 rfl 1 rfl ?_
    refine g_iload_n (pc := 14) d_MO_reading_14 rfl 2 rfl ?_
    refine g_cV1 (pc := 15) (ci := 7) (As := [.int _, .int _]) d_MO_reading_15 rfl mv_MO_errorFor st_MO_reading_73 rfl rfl (by decide) rfl rfl (Nat.le_of_ble_eq_true rfl) k_m (cm_MO_errorFor hM nd n6 s8 (by first | assumption | omega | decide)) ?_
    refine g_iadd (pc := 18) d_MO_reading_18 ?_
    refine g_iret (pc := 19) d_MO_reading_19 rfl ?_
    first | exact ⟨rfl, rfl⟩ | (rw [u1_u1]; exact ⟨rfl, rfl⟩)
  · exact (c_6 (by decide)).elim
set_option maxRecDepth 20000 in
theorem cm_MO_excess {E : En} {h : Hp} {m st nw sc : Nat} {c g : Nat → Int32} {B : Bu} {R : List (Nat × (Nat → Int32))} {ni U : Nat} {i : Nat} {x : Int32} (hM : MoOk h m st) (nd : (m :: st :: R.map Prod.fst).Nodup) (hG : Gd B nw sc ni U) (hi : i < sc) (hr1 : 1 ≤ x) (hr2 : x ≤ 5000) : CR E m_MO_excess [.ref m, .int (nI i), .int x] (wL h ((m, c) :: (st, enc nw sc B g) :: R)) (some (.int (M_exc B.1 (B.2.2 i) x))) (wL h ((m, (u1 c 17 0)) :: (st, enc nw sc B g) :: R)) := by
  refine ct_of rfl (by decide +kernel) (Nat.le_of_ble_eq_true rfl) ?_
  show G E m_MO_excess 0 [(0, .ref m), (1, .int (nI i)), (2, .int x)] [] (wL h ((m, c) :: (st, enc nw sc B g) :: R)) 0 0 _ noX
  obtain ⟨k_m, r_m_0, k_st, l_st⟩ := id hM
  obtain ⟨hw, n6, hs, s8, h0, hni, n3, ⟨sd, hsd, hsx⟩, hop⟩ := id hG.1
  refine g_aload_n (pc := 0) d_MO_excess_0 rfl 0 rfl ?_
  refine g_iload_n (pc := 1) d_MO_excess_1 rfl 1 rfl ?_
  refine g_iload_n (pc := 2) d_MO_excess_2 rfl 2 rfl ?_
  refine g_cV1 (pc := 3) (ci := 7) (As := [.int _, .int _]) d_MO_excess_3 rfl mv_MO_lacksGrams st_MO_excess_290 rfl rfl (by decide) rfl rfl (Nat.le_of_ble_eq_true rfl) k_m (cm_MO_lacksGrams hM nd hG hi hr1 hr2) ?_
  refine g_if_eq (pc := 6) (tgt := 11) d_MO_excess_6 (by decide) (fun c_6 => ?_) (fun c_6 => ?_)
  · skip
    refine g_aload_n (pc := 11) d_MO_excess_11 rfl 0 rfl ?_
    refine g_iload_n (pc := 12) d_MO_excess_12 rfl 1 rfl ?_
    refine g_iload_n (pc := 13) d_MO_excess_13 rfl 2 rfl ?_
    refine g_cV1 (pc := 14) (ci := 7) (As := [.int _, .int _]) d_MO_excess_14 rfl mv_MO_excessFor st_MO_excess_80 rfl rfl (by decide) rfl rfl (Nat.le_of_ble_eq_true rfl) k_m (cm_MO_excessFor hM nd n6 s8 (by first | assumption | omega | decide)) ?_
    refine g_iret (pc := 17) d_MO_excess_17 rfl ?_
    first | exact ⟨rfl, rfl⟩ | (rw [u1_u1]; exact ⟨rfl, rfl⟩)
  · exact (c_6 (by decide)).elim
set_option maxRecDepth 20000 in
theorem cm_MO_readingN {E : En} {h : Hp} {m st nw sc : Nat} {c g : Nat → Int32} {B : Bu} {R : List (Nat × (Nat → Int32))} {ni U : Nat} {v x : Int32} (hM : MoOk h m st) (nd : (m :: st :: R.map Prod.fst).Nodup) (hG : Gd B nw sc ni U) (hv : v < 0 ∨ nI sc ≤ v) : CR E m_MO_reading [.ref m, .int v, .int x] (wL h ((m, c) :: (st, enc nw sc B g) :: R)) (some (.int 0)) (wL h ((m, (u1 c 17 1)) :: (st, enc nw sc B g) :: R)) := by
  refine ct_of rfl (by decide +kernel) (Nat.le_of_ble_eq_true rfl) ?_
  show G E m_MO_reading 0 [(0, .ref m), (1, .int v), (2, .int x)] [] (wL h ((m, c) :: (st, enc nw sc B g) :: R)) 0 0 _ noX
  obtain ⟨k_m, r_m_0, k_st, l_st⟩ := id hM
  obtain ⟨hw, n6, hs, s8, h0, hni, n3, ⟨sd, hsd, hsx⟩, hop⟩ := id hG.1
  refine g_aload_n (pc := 0) d_MO_reading_0 rfl 0 rfl ?_
  refine g_iload_n (pc := 1) d_MO_reading_1 rfl 1 rfl ?_
  refine g_iload_n (pc := 2) d_MO_reading_2 rfl 2 rfl ?_
  refine g_cV1 (pc := 3) (ci := 7) (As := [.int _, .int _]) d_MO_reading_3 rfl mv_MO_lacksGrams st_MO_reading_290 rfl rfl (by decide) rfl rfl (Nat.le_of_ble_eq_true rfl) k_m (cm_MO_lacksGramsN hM nd hG hv) ?_
  refine g_if_eq (pc := 6) (tgt := 11) d_MO_reading_6 (by decide) (fun c_6 => ?_) (fun c_6 => ?_)
  · exact absurd c_6 (by decide)
  · skip
    refine g_iconst (pc := 9) (v := 0) d_MO_reading_9 (by decide) ?_
    refine g_iret (pc := 10) d_MO_reading_10 rfl ?_
    first | exact ⟨rfl, rfl⟩ | (rw [u1_u1]; exact ⟨rfl, rfl⟩)
set_option maxRecDepth 20000 in
theorem cm_MO_readingR {E : En} {h : Hp} {m st nw sc : Nat} {c g : Nat → Int32} {B : Bu} {R : List (Nat × (Nat → Int32))} {ni U : Nat} {i : Nat} {x : Int32} (hM : MoOk h m st) (nd : (m :: st :: R.map Prod.fst).Nodup) (hG : Gd B nw sc ni U) (hi : i < sc) (hrn : x < 1 ∨ 5000 < x) : CR E m_MO_reading [.ref m, .int (nI i), .int x] (wL h ((m, c) :: (st, enc nw sc B g) :: R)) (some (.int 0)) (wL h ((m, (u1 c 17 2)) :: (st, enc nw sc B g) :: R)) := by
  refine ct_of rfl (by decide +kernel) (Nat.le_of_ble_eq_true rfl) ?_
  show G E m_MO_reading 0 [(0, .ref m), (1, .int (nI i)), (2, .int x)] [] (wL h ((m, c) :: (st, enc nw sc B g) :: R)) 0 0 _ noX
  obtain ⟨k_m, r_m_0, k_st, l_st⟩ := id hM
  obtain ⟨hw, n6, hs, s8, h0, hni, n3, ⟨sd, hsd, hsx⟩, hop⟩ := id hG.1
  refine g_aload_n (pc := 0) d_MO_reading_0 rfl 0 rfl ?_
  refine g_iload_n (pc := 1) d_MO_reading_1 rfl 1 rfl ?_
  refine g_iload_n (pc := 2) d_MO_reading_2 rfl 2 rfl ?_
  refine g_cV1 (pc := 3) (ci := 7) (As := [.int _, .int _]) d_MO_reading_3 rfl mv_MO_lacksGrams st_MO_reading_290 rfl rfl (by decide) rfl rfl (Nat.le_of_ble_eq_true rfl) k_m (cm_MO_lacksGramsR hM nd hG hi hrn) ?_
  refine g_if_eq (pc := 6) (tgt := 11) d_MO_reading_6 (by decide) (fun c_6 => ?_) (fun c_6 => ?_)
  · exact absurd c_6 (by decide)
  · skip
    refine g_iconst (pc := 9) (v := 0) d_MO_reading_9 (by decide) ?_
    refine g_iret (pc := 10) d_MO_reading_10 rfl ?_
    first | exact ⟨rfl, rfl⟩ | (rw [u1_u1]; exact ⟨rfl, rfl⟩)
set_option maxRecDepth 20000 in
theorem cm_MO_excessN {E : En} {h : Hp} {m st nw sc : Nat} {c g : Nat → Int32} {B : Bu} {R : List (Nat × (Nat → Int32))} {ni U : Nat} {v x : Int32} (hM : MoOk h m st) (nd : (m :: st :: R.map Prod.fst).Nodup) (hG : Gd B nw sc ni U) (hv : v < 0 ∨ nI sc ≤ v) : CR E m_MO_excess [.ref m, .int v, .int x] (wL h ((m, c) :: (st, enc nw sc B g) :: R)) (some (.int 0)) (wL h ((m, (u1 c 17 1)) :: (st, enc nw sc B g) :: R)) := by
  refine ct_of rfl (by decide +kernel) (Nat.le_of_ble_eq_true rfl) ?_
  show G E m_MO_excess 0 [(0, .ref m), (1, .int v), (2, .int x)] [] (wL h ((m, c) :: (st, enc nw sc B g) :: R)) 0 0 _ noX
  obtain ⟨k_m, r_m_0, k_st, l_st⟩ := id hM
  obtain ⟨hw, n6, hs, s8, h0, hni, n3, ⟨sd, hsd, hsx⟩, hop⟩ := id hG.1
  refine g_aload_n (pc := 0) d_MO_excess_0 rfl 0 rfl ?_
  refine g_iload_n (pc := 1) d_MO_excess_1 rfl 1 rfl ?_
  refine g_iload_n (pc := 2) d_MO_excess_2 rfl 2 rfl ?_
  refine g_cV1 (pc := 3) (ci := 7) (As := [.int _, .int _]) d_MO_excess_3 rfl mv_MO_lacksGrams st_MO_excess_290 rfl rfl (by decide) rfl rfl (Nat.le_of_ble_eq_true rfl) k_m (cm_MO_lacksGramsN hM nd hG hv) ?_
  refine g_if_eq (pc := 6) (tgt := 11) d_MO_excess_6 (by decide) (fun c_6 => ?_) (fun c_6 => ?_)
  · exact absurd c_6 (by decide)
  · skip
    refine g_iconst (pc := 9) (v := 0) d_MO_excess_9 (by decide) ?_
    refine g_iret (pc := 10) d_MO_excess_10 rfl ?_
    first | exact ⟨rfl, rfl⟩ | (rw [u1_u1]; exact ⟨rfl, rfl⟩)
set_option maxRecDepth 20000 in
theorem cm_MO_excessR {E : En} {h : Hp} {m st nw sc : Nat} {c g : Nat → Int32} {B : Bu} {R : List (Nat × (Nat → Int32))} {ni U : Nat} {i : Nat} {x : Int32} (hM : MoOk h m st) (nd : (m :: st :: R.map Prod.fst).Nodup) (hG : Gd B nw sc ni U) (hi : i < sc) (hrn : x < 1 ∨ 5000 < x) : CR E m_MO_excess [.ref m, .int (nI i), .int x] (wL h ((m, c) :: (st, enc nw sc B g) :: R)) (some (.int 0)) (wL h ((m, (u1 c 17 2)) :: (st, enc nw sc B g) :: R)) := by
  refine ct_of rfl (by decide +kernel) (Nat.le_of_ble_eq_true rfl) ?_
  show G E m_MO_excess 0 [(0, .ref m), (1, .int (nI i)), (2, .int x)] [] (wL h ((m, c) :: (st, enc nw sc B g) :: R)) 0 0 _ noX
  obtain ⟨k_m, r_m_0, k_st, l_st⟩ := id hM
  obtain ⟨hw, n6, hs, s8, h0, hni, n3, ⟨sd, hsd, hsx⟩, hop⟩ := id hG.1
  refine g_aload_n (pc := 0) d_MO_excess_0 rfl 0 rfl ?_
  refine g_iload_n (pc := 1) d_MO_excess_1 rfl 1 rfl ?_
  refine g_iload_n (pc := 2) d_MO_excess_2 rfl 2 rfl ?_
  refine g_cV1 (pc := 3) (ci := 7) (As := [.int _, .int _]) d_MO_excess_3 rfl mv_MO_lacksGrams st_MO_excess_290 rfl rfl (by decide) rfl rfl (Nat.le_of_ble_eq_true rfl) k_m (cm_MO_lacksGramsR hM nd hG hi hrn) ?_
  refine g_if_eq (pc := 6) (tgt := 11) d_MO_excess_6 (by decide) (fun c_6 => ?_) (fun c_6 => ?_)
  · exact absurd c_6 (by decide)
  · skip
    refine g_iconst (pc := 9) (v := 0) d_MO_excess_9 (by decide) ?_
    refine g_iret (pc := 10) d_MO_excess_10 rfl ?_
    first | exact ⟨rfl, rfl⟩ | (rw [u1_u1]; exact ⟨rfl, rfl⟩)
set_option maxRecDepth 20000 in
theorem cm_MO_bound {E : En} {h : Hp} {m st nw sc : Nat} {c g : Nat → Int32} {B : Bu} {R : List (Nat × (Nat → Int32))} {ni U : Nat} {x : Int32} (hM : MoOk h m st) (nd : (m :: st :: R.map Prod.fst).Nodup) (hG : Gd B nw sc ni U) (hr1 : 1 ≤ x) (hr2 : x ≤ 5000) : CR E m_MO_bound [.ref m, .int x] (wL h ((m, c) :: (st, enc nw sc B g) :: R)) (some (.int (M_bound B.1 x))) (wL h ((m, (u1 c 17 0)) :: (st, enc nw sc B g) :: R)) := by
  refine ct_of rfl (by decide +kernel) (Nat.le_of_ble_eq_true rfl) ?_
  show G E m_MO_bound 0 [(0, .ref m), (1, .int x)] [] (wL h ((m, c) :: (st, enc nw sc B g) :: R)) 0 0 _ noX
  obtain ⟨k_m, r_m_0, k_st, l_st⟩ := id hM
  obtain ⟨hw, n6, hs, s8, h0, hni, n3, ⟨sd, hsd, hsx⟩, hop⟩ := id hG.1
  refine g_aload_n (pc := 0) d_MO_bound_0 rfl 0 rfl ?_
  refine g_iconst (pc := 1) (v := 0) d_MO_bound_1 (by decide) ?_
  refine g_lpI0 (pc := 2) (ci := 7) (f := 17) rfl d_MO_bound_2 fl_MO_52 (fun q hq => by cases hq; exact rfl) rfl rfl (by decide) k_m nd ?_
  refine g_aload_n (pc := 5) d_MO_bound_5 rfl 0 rfl ?_
  refine g_iload_n (pc := 6) d_MO_bound_6 rfl 1 rfl ?_
  refine g_iconst (pc := 7) (v := 1) d_MO_bound_7 (by decide) ?_
  refine g_sipush (pc := 8) (v := 5000) d_MO_bound_8 (by decide) ?_
  refine g_cS1 (pc := 11) (As := [.int _, .int _, .int _]) d_MO_bound_11 rfl ms_MO_in st_MO_bound_161 rfl rfl (Nat.le_of_ble_eq_true rfl) (cm_MO_in_t hr1 hr2) ?_
  refine g_if_ne (pc := 14) (tgt := 21) d_MO_bound_14 (by decide) (fun c_14 => ?_) (fun c_14 => ?_)
  · skip
    refine g_iconst (pc := 21) (v := 0) d_MO_bound_21 (by decide) ?_
    refine g_iconst (pc := 22) (v := 1) d_MO_bound_22 (by decide) ?_
    refine g_cV1 (pc := 23) (ci := 7) (As := [.int _, .int _]) d_MO_bound_23 rfl mv_MO_throwsIf st_MO_bound_154 rfl rfl (by decide) rfl rfl (Nat.le_of_ble_eq_true rfl) k_m (cm_MO_throwsIf_f k_m nd) ?_
    refine g_if_eq (pc := 26) (tgt := 31) d_MO_bound_26 (by decide) (fun c_26 => ?_) (fun c_26 => ?_)
    · skip
      refine g_aload_n (pc := 31) d_MO_bound_31 rfl 0 rfl ?_
      refine g_iload_n (pc := 32) d_MO_bound_32 rfl 1 rfl ?_
      refine g_cV1 (pc := 33) (ci := 7) (As := [.int _]) d_MO_bound_33 rfl mv_MO_boundFor st_MO_bound_76 rfl rfl (by decide) rfl rfl (Nat.le_of_ble_eq_true rfl) k_m (cm_MO_boundFor hM nd n6 s8) ?_
      refine g_iret (pc := 36) d_MO_bound_36 rfl ?_
      first | exact ⟨rfl, rfl⟩ | (rw [u1_u1]; exact ⟨rfl, rfl⟩)
    · exact (c_26 (by decide)).elim
  · exact absurd c_14 (by decide)
set_option maxRecDepth 20000 in
theorem cm_MO_boundR {E : En} {h : Hp} {m st nw sc : Nat} {c g : Nat → Int32} {B : Bu} {R : List (Nat × (Nat → Int32))} {ni U : Nat} {x : Int32} (hM : MoOk h m st) (nd : (m :: st :: R.map Prod.fst).Nodup) (hG : Gd B nw sc ni U) (hrn : x < 1 ∨ 5000 < x) : CR E m_MO_bound [.ref m, .int x] (wL h ((m, c) :: (st, enc nw sc B g) :: R)) (some (.int 0)) (wL h ((m, (u1 c 17 1)) :: (st, enc nw sc B g) :: R)) := by
  refine ct_of rfl (by decide +kernel) (Nat.le_of_ble_eq_true rfl) ?_
  show G E m_MO_bound 0 [(0, .ref m), (1, .int x)] [] (wL h ((m, c) :: (st, enc nw sc B g) :: R)) 0 0 _ noX
  obtain ⟨k_m, r_m_0, k_st, l_st⟩ := id hM
  obtain ⟨hw, n6, hs, s8, h0, hni, n3, ⟨sd, hsd, hsx⟩, hop⟩ := id hG.1
  refine g_aload_n (pc := 0) d_MO_bound_0 rfl 0 rfl ?_
  refine g_iconst (pc := 1) (v := 0) d_MO_bound_1 (by decide) ?_
  refine g_lpI0 (pc := 2) (ci := 7) (f := 17) rfl d_MO_bound_2 fl_MO_52 (fun q hq => by cases hq; exact rfl) rfl rfl (by decide) k_m nd ?_
  refine g_aload_n (pc := 5) d_MO_bound_5 rfl 0 rfl ?_
  refine g_iload_n (pc := 6) d_MO_bound_6 rfl 1 rfl ?_
  refine g_iconst (pc := 7) (v := 1) d_MO_bound_7 (by decide) ?_
  refine g_sipush (pc := 8) (v := 5000) d_MO_bound_8 (by decide) ?_
  refine g_cS1 (pc := 11) (As := [.int _, .int _, .int _]) d_MO_bound_11 rfl ms_MO_in st_MO_bound_161 rfl rfl (Nat.le_of_ble_eq_true rfl) (cm_MO_in_f hrn) ?_
  refine g_if_ne (pc := 14) (tgt := 21) d_MO_bound_14 (by decide) (fun c_14 => ?_) (fun c_14 => ?_)
  · exact (c_14 (by decide)).elim
  · skip
    refine g_iconst (pc := 17) (v := 1) d_MO_bound_17 (by decide) ?_
    refine g_goto (pc := 18) (tgt := 22) d_MO_bound_18 (by decide) ?_
    refine g_iconst (pc := 22) (v := 1) d_MO_bound_22 (by decide) ?_
    refine g_cV1 (pc := 23) (ci := 7) (As := [.int _, .int _]) d_MO_bound_23 rfl mv_MO_throwsIf st_MO_bound_154 rfl rfl (by decide) rfl rfl (Nat.le_of_ble_eq_true rfl) k_m (cm_MO_throwsIf_t k_m nd) ?_
    refine g_if_eq (pc := 26) (tgt := 31) d_MO_bound_26 (by decide) (fun c_26 => ?_) (fun c_26 => ?_)
    · exact absurd c_26 (by decide)
    · skip
      refine g_iconst (pc := 29) (v := 0) d_MO_bound_29 (by decide) ?_
      refine g_iret (pc := 30) d_MO_bound_30 rfl ?_
      first | exact ⟨rfl, rfl⟩ | (rw [u1_u1]; exact ⟨rfl, rfl⟩)
set_option maxRecDepth 20000 in
theorem cm_MO_testWeight {E : En} {h : Hp} {m st nw sc : Nat} {c g : Nat → Int32} {B : Bu} {R : List (Nat × (Nat → Int32))} {ni U : Nat} {j : Nat} (hM : MoOk h m st) (nd : (m :: st :: R.map Prod.fst).Nodup) (hG : Gd B nw sc ni U) (hj : j < nw) : CR E m_MO_testWeight [.ref m, .int (nI j)] (wL h ((m, c) :: (st, enc nw sc B g) :: R)) (some (.int (B.2.1 j))) (wL h ((m, (u1 c 17 0)) :: (st, enc nw sc B g) :: R)) := by
  refine ct_of rfl (by decide +kernel) (Nat.le_of_ble_eq_true rfl) ?_
  show G E m_MO_testWeight 0 [(0, .ref m), (1, .int (nI j))] [] (wL h ((m, c) :: (st, enc nw sc B g) :: R)) 0 0 _ noX
  obtain ⟨k_m, r_m_0, k_st, l_st⟩ := id hM
  obtain ⟨hw, n6, hs, s8, h0, hni, n3, ⟨sd, hsd, hsx⟩, hop⟩ := id hG.1
  refine g_aload_n (pc := 0) d_MO_testWeight_0 rfl 0 rfl ?_
  refine g_iconst (pc := 1) (v := 0) d_MO_testWeight_1 (by decide) ?_
  refine g_lpI0 (pc := 2) (ci := 7) (f := 17) rfl d_MO_testWeight_2 fl_MO_52 (fun q hq => by cases hq; exact rfl) rfl rfl (by decide) k_m nd ?_
  refine g_aload_n (pc := 5) d_MO_testWeight_5 rfl 0 rfl ?_
  refine g_iload_n (pc := 6) d_MO_testWeight_6 rfl 1 rfl ?_
  refine g_iconst (pc := 7) (v := 0) d_MO_testWeight_7 (by decide) ?_
  refine g_aload_n (pc := 8) d_MO_testWeight_8 rfl 0 rfl ?_
  refine g_getR (pc := 9) (ci := 7) (f := 0) (b := st) rfl r_m_0 d_MO_testWeight_9 fl_MO_7 (by decide) k_m ?_
  refine g_bipush (pc := 12) (v := 7) d_MO_testWeight_12 (by decide) ?_
  refine g_mI (pc := 14) (k := 7) d_MO_testWeight_14 k_st l_st (by decide) nd ?_
  refine g_iconst (pc := 15) (v := 1) d_MO_testWeight_15 (by decide) ?_
  refine g_isub (pc := 16) d_MO_testWeight_16 ?_
  refine g_cS1 (pc := 17) (As := [.int _, .int _, .int _]) d_MO_testWeight_17 rfl ms_MO_in st_MO_testWeight_161 rfl rfl (Nat.le_of_ble_eq_true rfl) (cm_MO_in_t (arg_ok hj (by omega)).1 (by show _ ≤ B.1 7 - 1; rw [hw]; exact (arg_ok hj (by omega)).2)) ?_
  refine g_if_ne (pc := 20) (tgt := 27) d_MO_testWeight_20 (by decide) (fun c_20 => ?_) (fun c_20 => ?_)
  · skip
    refine g_iconst (pc := 27) (v := 0) d_MO_testWeight_27 (by decide) ?_
    refine g_iconst (pc := 28) (v := 1) d_MO_testWeight_28 (by decide) ?_
    refine g_cV1 (pc := 29) (ci := 7) (As := [.int _, .int _]) d_MO_testWeight_29 rfl mv_MO_throwsIf st_MO_testWeight_154 rfl rfl (by decide) rfl rfl (Nat.le_of_ble_eq_true rfl) k_m (cm_MO_throwsIf_f k_m nd) ?_
    refine g_if_eq (pc := 32) (tgt := 37) d_MO_testWeight_32 (by decide) (fun c_32 => ?_) (fun c_32 => ?_)
    · skip
      refine g_aload_n (pc := 37) d_MO_testWeight_37 rfl 0 rfl ?_
      refine g_getR (pc := 38) (ci := 7) (f := 0) (b := st) rfl r_m_0 d_MO_testWeight_38 fl_MO_7 (by decide) k_m ?_
      refine g_bipush (pc := 41) (v := 14) d_MO_testWeight_41 (by decide) ?_
      refine g_iload_n (pc := 43) d_MO_testWeight_43 rfl 1 rfl ?_
      refine g_iadd (pc := 44) d_MO_testWeight_44 ?_
      refine g_mW (pc := 45) (j := j) d_MO_testWeight_45 k_st l_st n6 (by first | assumption | omega | decide) nd ?_
      refine g_iret (pc := 46) d_MO_testWeight_46 rfl ?_
      first | exact ⟨rfl, rfl⟩ | (rw [u1_u1]; exact ⟨rfl, rfl⟩)
    · exact (c_32 (by decide)).elim
  · exact absurd c_20 (by decide)
set_option maxRecDepth 20000 in
theorem cm_MO_testWeightN {E : En} {h : Hp} {m st nw sc : Nat} {c g : Nat → Int32} {B : Bu} {R : List (Nat × (Nat → Int32))} {ni U : Nat} {v : Int32} (hM : MoOk h m st) (nd : (m :: st :: R.map Prod.fst).Nodup) (hG : Gd B nw sc ni U) (w0 : 0 < nw) (hv : v < 0 ∨ nI nw ≤ v) : CR E m_MO_testWeight [.ref m, .int v] (wL h ((m, c) :: (st, enc nw sc B g) :: R)) (some (.int 0)) (wL h ((m, (u1 c 17 1)) :: (st, enc nw sc B g) :: R)) := by
  refine ct_of rfl (by decide +kernel) (Nat.le_of_ble_eq_true rfl) ?_
  show G E m_MO_testWeight 0 [(0, .ref m), (1, .int v)] [] (wL h ((m, c) :: (st, enc nw sc B g) :: R)) 0 0 _ noX
  obtain ⟨k_m, r_m_0, k_st, l_st⟩ := id hM
  obtain ⟨hw, n6, hs, s8, h0, hni, n3, ⟨sd, hsd, hsx⟩, hop⟩ := id hG.1
  refine g_aload_n (pc := 0) d_MO_testWeight_0 rfl 0 rfl ?_
  refine g_iconst (pc := 1) (v := 0) d_MO_testWeight_1 (by decide) ?_
  refine g_lpI0 (pc := 2) (ci := 7) (f := 17) rfl d_MO_testWeight_2 fl_MO_52 (fun q hq => by cases hq; exact rfl) rfl rfl (by decide) k_m nd ?_
  refine g_aload_n (pc := 5) d_MO_testWeight_5 rfl 0 rfl ?_
  refine g_iload_n (pc := 6) d_MO_testWeight_6 rfl 1 rfl ?_
  refine g_iconst (pc := 7) (v := 0) d_MO_testWeight_7 (by decide) ?_
  refine g_aload_n (pc := 8) d_MO_testWeight_8 rfl 0 rfl ?_
  refine g_getR (pc := 9) (ci := 7) (f := 0) (b := st) rfl r_m_0 d_MO_testWeight_9 fl_MO_7 (by decide) k_m ?_
  refine g_bipush (pc := 12) (v := 7) d_MO_testWeight_12 (by decide) ?_
  refine g_mI (pc := 14) (k := 7) d_MO_testWeight_14 k_st l_st (by decide) nd ?_
  refine g_iconst (pc := 15) (v := 1) d_MO_testWeight_15 (by decide) ?_
  refine g_isub (pc := 16) d_MO_testWeight_16 ?_
  refine g_cS1 (pc := 17) (As := [.int _, .int _, .int _]) d_MO_testWeight_17 rfl ms_MO_in st_MO_testWeight_161 rfl rfl (Nat.le_of_ble_eq_true rfl) (cm_MO_in_f (by show v < 0 ∨ B.1 7 - 1 < v; rw [hw]; exact arg_no w0 (by omega) hv)) ?_
  refine g_if_ne (pc := 20) (tgt := 27) d_MO_testWeight_20 (by decide) (fun c_20 => ?_) (fun c_20 => ?_)
  · exact (c_20 (by decide)).elim
  · skip
    refine g_iconst (pc := 23) (v := 1) d_MO_testWeight_23 (by decide) ?_
    refine g_goto (pc := 24) (tgt := 28) d_MO_testWeight_24 (by decide) ?_
    refine g_iconst (pc := 28) (v := 1) d_MO_testWeight_28 (by decide) ?_
    refine g_cV1 (pc := 29) (ci := 7) (As := [.int _, .int _]) d_MO_testWeight_29 rfl mv_MO_throwsIf st_MO_testWeight_154 rfl rfl (by decide) rfl rfl (Nat.le_of_ble_eq_true rfl) k_m (cm_MO_throwsIf_t k_m nd) ?_
    refine g_if_eq (pc := 32) (tgt := 37) d_MO_testWeight_32 (by decide) (fun c_32 => ?_) (fun c_32 => ?_)
    · exact absurd c_32 (by decide)
    · skip
      refine g_iconst (pc := 35) (v := 0) d_MO_testWeight_35 (by decide) ?_
      refine g_iret (pc := 36) d_MO_testWeight_36 rfl ?_
      first | exact ⟨rfl, rfl⟩ | (rw [u1_u1]; exact ⟨rfl, rfl⟩)
set_option maxRecDepth 20000 in
theorem cm_MO_passDays {E : En} {h : Hp} {m st nw sc : Nat} {c g : Nat → Int32} {B : Bu} {R : List (Nat × (Nat → Int32))} {ni U : Nat} {old kept : Nat} {days : Nat} (hM : MoOk h m st) (nd : (m :: st :: R.map Prod.fst).Nodup) (hG : Gd B nw sc ni U) (hk1 : c 1 = nI old) (hk2 : c 2 = nI kept) (ho8 : old < 8) (hk8 : kept ≤ 8) (hU : U + days ≤ 2000000000) (hr1 : (1 : Int32) ≤ nI days) (hr2 : nI days ≤ 100) : CR E m_MO_passDays [.ref m, .int (nI days)] (wL h ((m, c) :: (st, enc nw sc B g) :: R)) (some (.int (nI (P_pass nw sc ni days (0, B)).1))) (wL h ((m, (kpC (u1 c 17 0) old kept)) :: (st, enc nw sc (P_pass nw sc ni days (0, B)).2 (KC (enc nw sc B g) 0 (1 + (old + kept) % 8))) :: R)) := by
  refine ct_of rfl (by decide +kernel) (Nat.le_of_ble_eq_true rfl) ?_
  show G E m_MO_passDays 0 [(0, .ref m), (1, .int (nI days))] [] (wL h ((m, c) :: (st, enc nw sc B g) :: R)) 0 0 _ noX
  obtain ⟨k_m, r_m_0, k_st, l_st⟩ := id hM
  obtain ⟨hw, n6, hs, s8, h0, hni, n3, ⟨sd, hsd, hsx⟩, hop⟩ := id hG.1
  refine g_aload_n (pc := 0) d_MO_passDays_0 rfl 0 rfl ?_
  refine g_iconst (pc := 1) (v := 0) d_MO_passDays_1 (by decide) ?_
  refine g_lpI0 (pc := 2) (ci := 7) (f := 17) rfl d_MO_passDays_2 fl_MO_52 (fun q hq => by cases hq; exact rfl) rfl rfl (by decide) k_m nd ?_
  refine g_aload_n (pc := 5) d_MO_passDays_5 rfl 0 rfl ?_
  refine g_iload_n (pc := 6) d_MO_passDays_6 rfl 1 rfl ?_
  refine g_iconst (pc := 7) (v := 1) d_MO_passDays_7 (by decide) ?_
  refine g_bipush (pc := 8) (v := 100) d_MO_passDays_8 (by decide) ?_
  refine g_cS1 (pc := 10) (As := [.int _, .int _, .int _]) d_MO_passDays_10 rfl ms_MO_in st_MO_passDays_161 rfl rfl (Nat.le_of_ble_eq_true rfl) (cm_MO_in_t hr1 hr2) ?_
  refine g_if_ne (pc := 13) (tgt := 20) d_MO_passDays_13 (by decide) (fun c_13 => ?_) (fun c_13 => ?_)
  · skip
    refine g_iconst (pc := 20) (v := 0) d_MO_passDays_20 (by decide) ?_
    refine g_iconst (pc := 21) (v := 1) d_MO_passDays_21 (by decide) ?_
    refine g_cV1 (pc := 22) (ci := 7) (As := [.int _, .int _]) d_MO_passDays_22 rfl mv_MO_throwsIf st_MO_passDays_154 rfl rfl (by decide) rfl rfl (Nat.le_of_ble_eq_true rfl) k_m (cm_MO_throwsIf_f k_m nd) ?_
    refine g_if_eq (pc := 25) (tgt := 30) d_MO_passDays_25 (by decide) (fun c_25 => ?_) (fun c_25 => ?_)
    · skip
      refine g_aload_n (pc := 30) d_MO_passDays_30 rfl 0 rfl ?_
      refine g_iconst (pc := 31) (v := 0) d_MO_passDays_31 (by decide) ?_
      refine g_cV0 (pc := 32) (ci := 7) (As := [.int _]) d_MO_passDays_32 rfl mv_MO_keep st_MO_passDays_239 rfl rfl (by decide) rfl rfl (Nat.le_of_ble_eq_true rfl) k_m (cm_MO_keep hM nd n6 s8 hk1 hk2 ho8 hk8) ?_
      refine g_aload_n (pc := 35) d_MO_passDays_35 rfl 0 rfl ?_
      refine g_iload_n (pc := 36) d_MO_passDays_36 rfl 1 rfl ?_
      refine g_cV1 (pc := 37) (ci := 7) (As := [.int _]) d_MO_passDays_37 rfl mv_MO_passAll st_MO_passDays_275 rfl rfl (by decide) rfl rfl (Nat.le_of_ble_eq_true rfl) k_m (cm_MO_passAll hM nd hG (by omega)) ?_
      refine g_iret (pc := 40) d_MO_passDays_40 rfl ?_
      first | exact ⟨rfl, rfl⟩ | (rw [u1_u1]; exact ⟨rfl, rfl⟩)
    · exact (c_25 (by decide)).elim
  · exact absurd c_13 (by decide)
set_option maxRecDepth 20000 in
theorem cm_MO_passDaysR {E : En} {h : Hp} {m st nw sc : Nat} {c g : Nat → Int32} {B : Bu} {R : List (Nat × (Nat → Int32))} {ni U : Nat} {x : Int32} (hM : MoOk h m st) (nd : (m :: st :: R.map Prod.fst).Nodup) (hG : Gd B nw sc ni U) (hrn : x < 1 ∨ 100 < x) : CR E m_MO_passDays [.ref m, .int x] (wL h ((m, c) :: (st, enc nw sc B g) :: R)) (some (.int 0)) (wL h ((m, (u1 c 17 1)) :: (st, enc nw sc B g) :: R)) := by
  refine ct_of rfl (by decide +kernel) (Nat.le_of_ble_eq_true rfl) ?_
  show G E m_MO_passDays 0 [(0, .ref m), (1, .int x)] [] (wL h ((m, c) :: (st, enc nw sc B g) :: R)) 0 0 _ noX
  obtain ⟨k_m, r_m_0, k_st, l_st⟩ := id hM
  obtain ⟨hw, n6, hs, s8, h0, hni, n3, ⟨sd, hsd, hsx⟩, hop⟩ := id hG.1
  refine g_aload_n (pc := 0) d_MO_passDays_0 rfl 0 rfl ?_
  refine g_iconst (pc := 1) (v := 0) d_MO_passDays_1 (by decide) ?_
  refine g_lpI0 (pc := 2) (ci := 7) (f := 17) rfl d_MO_passDays_2 fl_MO_52 (fun q hq => by cases hq; exact rfl) rfl rfl (by decide) k_m nd ?_
  refine g_aload_n (pc := 5) d_MO_passDays_5 rfl 0 rfl ?_
  refine g_iload_n (pc := 6) d_MO_passDays_6 rfl 1 rfl ?_
  refine g_iconst (pc := 7) (v := 1) d_MO_passDays_7 (by decide) ?_
  refine g_bipush (pc := 8) (v := 100) d_MO_passDays_8 (by decide) ?_
  refine g_cS1 (pc := 10) (As := [.int _, .int _, .int _]) d_MO_passDays_10 rfl ms_MO_in st_MO_passDays_161 rfl rfl (Nat.le_of_ble_eq_true rfl) (cm_MO_in_f hrn) ?_
  refine g_if_ne (pc := 13) (tgt := 20) d_MO_passDays_13 (by decide) (fun c_13 => ?_) (fun c_13 => ?_)
  · exact (c_13 (by decide)).elim
  · skip
    refine g_iconst (pc := 16) (v := 1) d_MO_passDays_16 (by decide) ?_
    refine g_goto (pc := 17) (tgt := 21) d_MO_passDays_17 (by decide) ?_
    refine g_iconst (pc := 21) (v := 1) d_MO_passDays_21 (by decide) ?_
    refine g_cV1 (pc := 22) (ci := 7) (As := [.int _, .int _]) d_MO_passDays_22 rfl mv_MO_throwsIf st_MO_passDays_154 rfl rfl (by decide) rfl rfl (Nat.le_of_ble_eq_true rfl) k_m (cm_MO_throwsIf_t k_m nd) ?_
    refine g_if_eq (pc := 25) (tgt := 30) d_MO_passDays_25 (by decide) (fun c_25 => ?_) (fun c_25 => ?_)
    · exact absurd c_25 (by decide)
    · skip
      refine g_iconst (pc := 28) (v := 0) d_MO_passDays_28 (by decide) ?_
      refine g_iret (pc := 29) d_MO_passDays_29 rfl ?_
      first | exact ⟨rfl, rfl⟩ | (rw [u1_u1]; exact ⟨rfl, rfl⟩)
set_option maxRecDepth 20000 in
theorem cm_MO_visit {E : En} {h : Hp} {m st nw sc : Nat} {c g : Nat → Int32} {B : Bu} {R : List (Nat × (Nat → Int32))} {ni U : Nat} {old kept : Nat} {i : Nat} (hM : MoOk h m st) (nd : (m :: st :: R.map Prod.fst).Nodup) (hG : Gd B nw sc ni U) (hk1 : c 1 = nI old) (hk2 : c 2 = nI kept) (ho8 : old < 8) (hk8 : kept ≤ 8) (hi : i < sc) (hop1 : B.2.2 i 12 = 1) : CR E m_MO_visit [.ref m, .int (nI i)] (wL h ((m, c) :: (st, enc nw sc B g) :: R)) (some (.int (P_fine B i nw))) (wL h ((m, (kpC (u1 c 17 0) old kept)) :: (st, enc nw sc (P_ins B i nw) (KC (enc nw sc B g) 0 (1 + (old + kept) % 8))) :: R)) := by
  refine ct_of rfl (by decide +kernel) (Nat.le_of_ble_eq_true rfl) ?_
  show G E m_MO_visit 0 [(0, .ref m), (1, .int (nI i))] [] (wL h ((m, c) :: (st, enc nw sc B g) :: R)) 0 0 _ noX
  obtain ⟨k_m, r_m_0, k_st, l_st⟩ := id hM
  obtain ⟨hw, n6, hs, s8, h0, hni, n3, ⟨sd, hsd, hsx⟩, hop⟩ := id hG.1
  refine g_aload_n (pc := 0) d_MO_visit_0 rfl 0 rfl ?_
  refine g_iload_n (pc := 1) d_MO_visit_1 rfl 1 rfl ?_
  refine g_cV1 (pc := 2) (ci := 7) (As := [.int _]) d_MO_visit_2 rfl mv_MO_lacksShop st_MO_visit_284 rfl rfl (by decide) rfl rfl (Nat.le_of_ble_eq_true rfl) k_m (cm_MO_lacksShop hM nd hG hi) ?_
  refine g_if_ne (pc := 5) (tgt := 29) d_MO_visit_5 (by decide) (fun c_5 => ?_) (fun c_5 => ?_)
  · exact (c_5 (by decide)).elim
  · skip
    refine g_aload_n (pc := 8) d_MO_visit_8 rfl 0 rfl ?_
    refine g_aload_n (pc := 9) d_MO_visit_9 rfl 0 rfl ?_
    refine g_iload_n (pc := 10) d_MO_visit_10 rfl 1 rfl ?_
    refine g_cV1 (pc := 11) (ci := 7) (As := [.int _]) d_MO_visit_11 rfl mv_MO_isOpenShop st_MO_visit_115 rfl rfl (by decide) rfl rfl (Nat.le_of_ble_eq_true rfl) k_m (cm_MO_isOpenShop_t hM nd n6 s8 hi hop1) ?_
    refine g_if_ne (pc := 14) (tgt := 21) d_MO_visit_14 (by decide) (fun c_14 => ?_) (fun c_14 => ?_)
    · skip
      refine g_iconst (pc := 21) (v := 0) d_MO_visit_21 (by decide) ?_
      refine g_iconst (pc := 22) (v := 2) d_MO_visit_22 (by decide) ?_
      refine g_cV1 (pc := 23) (ci := 7) (As := [.int _, .int _]) d_MO_visit_23 rfl mv_MO_throwsIf st_MO_visit_154 rfl rfl (by decide) rfl rfl (Nat.le_of_ble_eq_true rfl) k_m (cm_MO_throwsIf_f k_m nd) ?_
      refine g_if_eq (pc := 26) (tgt := 31) d_MO_visit_26 (by decide) (fun c_26 => ?_) (fun c_26 => ?_)
      · skip
        refine g_aload_n (pc := 31) d_MO_visit_31 rfl 0 rfl ?_
        refine g_iconst (pc := 32) (v := 0) d_MO_visit_32 (by decide) ?_
        refine g_cV0 (pc := 33) (ci := 7) (As := [.int _]) d_MO_visit_33 rfl mv_MO_keep st_MO_visit_239 rfl rfl (by decide) rfl rfl (Nat.le_of_ble_eq_true rfl) k_m (cm_MO_keep hM nd n6 s8 hk1 hk2 ho8 hk8) ?_
        refine g_aload_n (pc := 36) d_MO_visit_36 rfl 0 rfl ?_
        refine g_iload_n (pc := 37) d_MO_visit_37 rfl 1 rfl ?_
        refine g_cV1 (pc := 38) (ci := 7) (As := [.int _]) d_MO_visit_38 rfl mv_MO_visitNow st_MO_visit_142 rfl rfl (by decide) rfl rfl (Nat.le_of_ble_eq_true rfl) k_m (cm_MO_visitNow hM nd n6 s8 (by first | assumption | omega | decide) hw (hG.tot (by first | assumption | omega | decide))) ?_
        refine g_iret (pc := 41) d_MO_visit_41 rfl ?_
        first | exact ⟨rfl, rfl⟩ | (rw [u1_u1]; exact ⟨rfl, rfl⟩)
      · exact (c_26 (by decide)).elim
    · exact absurd c_14 (by decide)
set_option maxRecDepth 20000 in
theorem cm_MO_repair {E : En} {h : Hp} {m st nw sc : Nat} {c g : Nat → Int32} {B : Bu} {R : List (Nat × (Nat → Int32))} {ni U : Nat} {old kept : Nat} {i : Nat} (hM : MoOk h m st) (nd : (m :: st :: R.map Prod.fst).Nodup) (hG : Gd B nw sc ni U) (hk1 : c 1 = nI old) (hk2 : c 2 = nI kept) (ho8 : old < 8) (hk8 : kept ≤ 8) (hi : i < sc) (hpay : M_canPay (B.2.2 i) = true) : CR E m_MO_repair [.ref m, .int (nI i)] (wL h ((m, c) :: (st, enc nw sc B g) :: R)) (some (.int (B.2.2 i 0 - 10))) (wL h ((m, (kpC (u1 c 17 0) old kept)) :: (st, enc nw sc (P_repair B i) (KC (enc nw sc B g) 0 (1 + (old + kept) % 8))) :: R)) := by
  refine ct_of rfl (by decide +kernel) (Nat.le_of_ble_eq_true rfl) ?_
  show G E m_MO_repair 0 [(0, .ref m), (1, .int (nI i))] [] (wL h ((m, c) :: (st, enc nw sc B g) :: R)) 0 0 _ noX
  obtain ⟨k_m, r_m_0, k_st, l_st⟩ := id hM
  obtain ⟨hw, n6, hs, s8, h0, hni, n3, ⟨sd, hsd, hsx⟩, hop⟩ := id hG.1
  refine g_aload_n (pc := 0) d_MO_repair_0 rfl 0 rfl ?_
  refine g_iload_n (pc := 1) d_MO_repair_1 rfl 1 rfl ?_
  refine g_cV1 (pc := 2) (ci := 7) (As := [.int _]) d_MO_repair_2 rfl mv_MO_lacksShop st_MO_repair_284 rfl rfl (by decide) rfl rfl (Nat.le_of_ble_eq_true rfl) k_m (cm_MO_lacksShop hM nd hG hi) ?_
  refine g_if_ne (pc := 5) (tgt := 29) d_MO_repair_5 (by decide) (fun c_5 => ?_) (fun c_5 => ?_)
  · exact (c_5 (by decide)).elim
  · skip
    refine g_aload_n (pc := 8) d_MO_repair_8 rfl 0 rfl ?_
    refine g_aload_n (pc := 9) d_MO_repair_9 rfl 0 rfl ?_
    refine g_iload_n (pc := 10) d_MO_repair_10 rfl 1 rfl ?_
    refine g_cV1 (pc := 11) (ci := 7) (As := [.int _]) d_MO_repair_11 rfl mv_MO_canRepair st_MO_repair_251 rfl rfl (by decide) rfl rfl (Nat.le_of_ble_eq_true rfl) k_m (cm_MO_canRepair_t hM nd hG hi hpay) ?_
    refine g_if_ne (pc := 14) (tgt := 21) d_MO_repair_14 (by decide) (fun c_14 => ?_) (fun c_14 => ?_)
    · skip
      refine g_iconst (pc := 21) (v := 0) d_MO_repair_21 (by decide) ?_
      refine g_iconst (pc := 22) (v := 2) d_MO_repair_22 (by decide) ?_
      refine g_cV1 (pc := 23) (ci := 7) (As := [.int _, .int _]) d_MO_repair_23 rfl mv_MO_throwsIf st_MO_repair_154 rfl rfl (by decide) rfl rfl (Nat.le_of_ble_eq_true rfl) k_m (cm_MO_throwsIf_f k_m nd) ?_
      refine g_if_eq (pc := 26) (tgt := 31) d_MO_repair_26 (by decide) (fun c_26 => ?_) (fun c_26 => ?_)
      · skip
        refine g_aload_n (pc := 31) d_MO_repair_31 rfl 0 rfl ?_
        refine g_iconst (pc := 32) (v := 0) d_MO_repair_32 (by decide) ?_
        refine g_cV0 (pc := 33) (ci := 7) (As := [.int _]) d_MO_repair_33 rfl mv_MO_keep st_MO_repair_239 rfl rfl (by decide) rfl rfl (Nat.le_of_ble_eq_true rfl) k_m (cm_MO_keep hM nd n6 s8 hk1 hk2 ho8 hk8) ?_
        refine g_aload_n (pc := 36) d_MO_repair_36 rfl 0 rfl ?_
        refine g_iload_n (pc := 37) d_MO_repair_37 rfl 1 rfl ?_
        refine g_cV1 (pc := 38) (ci := 7) (As := [.int _]) d_MO_repair_38 rfl mv_MO_repairNow st_MO_repair_254 rfl rfl (by decide) rfl rfl (Nat.le_of_ble_eq_true rfl) k_m (cm_MO_repairNow hM nd n6 s8 (by first | assumption | omega | decide)) ?_
        refine g_iret (pc := 41) d_MO_repair_41 rfl ?_
        first | exact ⟨rfl, rfl⟩ | (rw [u1_u1]; exact ⟨rfl, rfl⟩)
      · exact (c_26 (by decide)).elim
    · exact absurd c_14 (by decide)
set_option maxRecDepth 20000 in
theorem cm_MO_complain {E : En} {h : Hp} {m st nw sc : Nat} {c g : Nat → Int32} {B : Bu} {R : List (Nat × (Nat → Int32))} {ni U : Nat} {old kept : Nat} {i : Nat} (hM : MoOk h m st) (nd : (m :: st :: R.map Prod.fst).Nodup) (hG : Gd B nw sc ni U) (hk1 : c 1 = nI old) (hk2 : c 2 = nI kept) (ho8 : old < 8) (hk8 : kept ≤ 8) (hi : i < sc) (hop1 : B.2.2 i 12 = 1) : CR E m_MO_complain [.ref m, .int (nI i)] (wL h ((m, c) :: (st, enc nw sc B g) :: R)) (some (.int (B.2.2 i 8 + 1))) (wL h ((m, (kpC (u1 c 17 0) old kept)) :: (st, enc nw sc (sS B i (u1 (B.2.2 i) 8 (B.2.2 i 8 + 1))) (KC (enc nw sc B g) 0 (1 + (old + kept) % 8))) :: R)) := by
  refine ct_of rfl (by decide +kernel) (Nat.le_of_ble_eq_true rfl) ?_
  show G E m_MO_complain 0 [(0, .ref m), (1, .int (nI i))] [] (wL h ((m, c) :: (st, enc nw sc B g) :: R)) 0 0 _ noX
  obtain ⟨k_m, r_m_0, k_st, l_st⟩ := id hM
  obtain ⟨hw, n6, hs, s8, h0, hni, n3, ⟨sd, hsd, hsx⟩, hop⟩ := id hG.1
  refine g_aload_n (pc := 0) d_MO_complain_0 rfl 0 rfl ?_
  refine g_iload_n (pc := 1) d_MO_complain_1 rfl 1 rfl ?_
  refine g_cV1 (pc := 2) (ci := 7) (As := [.int _]) d_MO_complain_2 rfl mv_MO_lacksShop st_MO_complain_284 rfl rfl (by decide) rfl rfl (Nat.le_of_ble_eq_true rfl) k_m (cm_MO_lacksShop hM nd hG hi) ?_
  refine g_if_ne (pc := 5) (tgt := 29) d_MO_complain_5 (by decide) (fun c_5 => ?_) (fun c_5 => ?_)
  · exact (c_5 (by decide)).elim
  · skip
    refine g_aload_n (pc := 8) d_MO_complain_8 rfl 0 rfl ?_
    refine g_aload_n (pc := 9) d_MO_complain_9 rfl 0 rfl ?_
    refine g_iload_n (pc := 10) d_MO_complain_10 rfl 1 rfl ?_
    refine g_cV1 (pc := 11) (ci := 7) (As := [.int _]) d_MO_complain_11 rfl mv_MO_isOpenShop st_MO_complain_115 rfl rfl (by decide) rfl rfl (Nat.le_of_ble_eq_true rfl) k_m (cm_MO_isOpenShop_t hM nd n6 s8 hi hop1) ?_
    refine g_if_ne (pc := 14) (tgt := 21) d_MO_complain_14 (by decide) (fun c_14 => ?_) (fun c_14 => ?_)
    · skip
      refine g_iconst (pc := 21) (v := 0) d_MO_complain_21 (by decide) ?_
      refine g_iconst (pc := 22) (v := 2) d_MO_complain_22 (by decide) ?_
      refine g_cV1 (pc := 23) (ci := 7) (As := [.int _, .int _]) d_MO_complain_23 rfl mv_MO_throwsIf st_MO_complain_154 rfl rfl (by decide) rfl rfl (Nat.le_of_ble_eq_true rfl) k_m (cm_MO_throwsIf_f k_m nd) ?_
      refine g_if_eq (pc := 26) (tgt := 31) d_MO_complain_26 (by decide) (fun c_26 => ?_) (fun c_26 => ?_)
      · skip
        refine g_aload_n (pc := 31) d_MO_complain_31 rfl 0 rfl ?_
        refine g_iconst (pc := 32) (v := 0) d_MO_complain_32 (by decide) ?_
        refine g_cV0 (pc := 33) (ci := 7) (As := [.int _]) d_MO_complain_33 rfl mv_MO_keep st_MO_complain_239 rfl rfl (by decide) rfl rfl (Nat.le_of_ble_eq_true rfl) k_m (cm_MO_keep hM nd n6 s8 hk1 hk2 ho8 hk8) ?_
        refine g_aload_n (pc := 36) d_MO_complain_36 rfl 0 rfl ?_
        refine g_iload_n (pc := 37) d_MO_complain_37 rfl 1 rfl ?_
        refine g_cV1 (pc := 38) (ci := 7) (As := [.int _]) d_MO_complain_38 rfl mv_MO_complainNow st_MO_complain_257 rfl rfl (by decide) rfl rfl (Nat.le_of_ble_eq_true rfl) k_m (cm_MO_complainNow hM nd n6 s8 (by first | assumption | omega | decide)) ?_
        refine g_iret (pc := 41) d_MO_complain_41 rfl ?_
        first | exact ⟨rfl, rfl⟩ | (rw [u1_u1]; exact ⟨rfl, rfl⟩)
      · exact (c_26 (by decide)).elim
    · exact absurd c_14 (by decide)
set_option maxRecDepth 20000 in
theorem cm_MO_reopen {E : En} {h : Hp} {m st nw sc : Nat} {c g : Nat → Int32} {B : Bu} {R : List (Nat × (Nat → Int32))} {ni U : Nat} {old kept : Nat} {i : Nat} (hM : MoOk h m st) (nd : (m :: st :: R.map Prod.fst).Nodup) (hG : Gd B nw sc ni U) (hk1 : c 1 = nI old) (hk2 : c 2 = nI kept) (ho8 : old < 8) (hk8 : kept ≤ 8) (hi : i < sc) (hop1 : B.2.2 i 12 = 0) : CR E m_MO_reopen [.ref m, .int (nI i)] (wL h ((m, c) :: (st, enc nw sc B g) :: R)) (some (.int (nI (P_open (sS B i (M_open (B.2.2 i))).2.2 sc)))) (wL h ((m, (kpC (u1 c 17 0) old kept)) :: (st, enc nw sc (sS B i (M_open (B.2.2 i))) (KC (enc nw sc B g) 0 (1 + (old + kept) % 8))) :: R)) := by
  refine ct_of rfl (by decide +kernel) (Nat.le_of_ble_eq_true rfl) ?_
  show G E m_MO_reopen 0 [(0, .ref m), (1, .int (nI i))] [] (wL h ((m, c) :: (st, enc nw sc B g) :: R)) 0 0 _ noX
  obtain ⟨k_m, r_m_0, k_st, l_st⟩ := id hM
  obtain ⟨hw, n6, hs, s8, h0, hni, n3, ⟨sd, hsd, hsx⟩, hop⟩ := id hG.1
  refine g_aload_n (pc := 0) d_MO_reopen_0 rfl 0 rfl ?_
  refine g_iload_n (pc := 1) d_MO_reopen_1 rfl 1 rfl ?_
  refine g_cV1 (pc := 2) (ci := 7) (As := [.int _]) d_MO_reopen_2 rfl mv_MO_lacksShop st_MO_reopen_284 rfl rfl (by decide) rfl rfl (Nat.le_of_ble_eq_true rfl) k_m (cm_MO_lacksShop hM nd hG hi) ?_
  refine g_if_ne (pc := 5) (tgt := 21) d_MO_reopen_5 (by decide) (fun c_5 => ?_) (fun c_5 => ?_)
  · exact (c_5 (by decide)).elim
  · skip
    refine g_aload_n (pc := 8) d_MO_reopen_8 rfl 0 rfl ?_
    refine g_aload_n (pc := 9) d_MO_reopen_9 rfl 0 rfl ?_
    refine g_iload_n (pc := 10) d_MO_reopen_10 rfl 1 rfl ?_
    refine g_cV1 (pc := 11) (ci := 7) (As := [.int _]) d_MO_reopen_11 rfl mv_MO_isOpenShop st_MO_reopen_115 rfl rfl (by decide) rfl rfl (Nat.le_of_ble_eq_true rfl) k_m (cm_MO_isOpenShop_f hM nd n6 s8 hi hop1) ?_
    refine g_iconst (pc := 14) (v := 2) d_MO_reopen_14 (by decide) ?_
    refine g_cV1 (pc := 15) (ci := 7) (As := [.int _, .int _]) d_MO_reopen_15 rfl mv_MO_throwsIf st_MO_reopen_154 rfl rfl (by decide) rfl rfl (Nat.le_of_ble_eq_true rfl) k_m (cm_MO_throwsIf_f k_m nd) ?_
    refine g_if_eq (pc := 18) (tgt := 23) d_MO_reopen_18 (by decide) (fun c_18 => ?_) (fun c_18 => ?_)
    · skip
      refine g_aload_n (pc := 23) d_MO_reopen_23 rfl 0 rfl ?_
      refine g_iconst (pc := 24) (v := 0) d_MO_reopen_24 (by decide) ?_
      refine g_cV0 (pc := 25) (ci := 7) (As := [.int _]) d_MO_reopen_25 rfl mv_MO_keep st_MO_reopen_239 rfl rfl (by decide) rfl rfl (Nat.le_of_ble_eq_true rfl) k_m (cm_MO_keep hM nd n6 s8 hk1 hk2 ho8 hk8) ?_
      refine g_aload_n (pc := 28) d_MO_reopen_28 rfl 0 rfl ?_
      refine g_iload_n (pc := 29) d_MO_reopen_29 rfl 1 rfl ?_
      refine g_cV1 (pc := 30) (ci := 7) (As := [.int _]) d_MO_reopen_30 rfl mv_MO_reopenNow st_MO_reopen_260 rfl rfl (by decide) rfl rfl (Nat.le_of_ble_eq_true rfl) k_m (cm_MO_reopenNow hM nd hG (by first | assumption | omega | decide)) ?_
      refine g_iret (pc := 33) d_MO_reopen_33 rfl ?_
      first | exact ⟨rfl, rfl⟩ | (rw [u1_u1]; exact ⟨rfl, rfl⟩)
    · exact (c_18 (by decide)).elim
set_option maxRecDepth 20000 in
theorem cm_MO_setThumb {E : En} {h : Hp} {m st nw sc : Nat} {c g : Nat → Int32} {B : Bu} {R : List (Nat × (Nat → Int32))} {ni U : Nat} {old kept : Nat} {i : Nat} {x : Int32} (hM : MoOk h m st) (nd : (m :: st :: R.map Prod.fst).Nodup) (hG : Gd B nw sc ni U) (hk1 : c 1 = nI old) (hk2 : c 2 = nI kept) (ho8 : old < 8) (hk8 : kept ≤ 8) (hi : i < sc) (hr1 : (0 : Int32) ≤ x) (hr2 : x ≤ 100) : CR E m_MO_setThumb [.ref m, .int (nI i), .int x] (wL h ((m, c) :: (st, enc nw sc B g) :: R)) (some (.int (B.2.2 i 6))) (wL h ((m, (kpC (u1 c 17 0) old kept)) :: (st, enc nw sc (Q_thumb B i x) (KC (enc nw sc B g) 0 (1 + (old + kept) % 8))) :: R)) := by
  refine ct_of rfl (by decide +kernel) (Nat.le_of_ble_eq_true rfl) ?_
  show G E m_MO_setThumb 0 [(0, .ref m), (1, .int (nI i)), (2, .int x)] [] (wL h ((m, c) :: (st, enc nw sc B g) :: R)) 0 0 _ noX
  obtain ⟨k_m, r_m_0, k_st, l_st⟩ := id hM
  obtain ⟨hw, n6, hs, s8, h0, hni, n3, ⟨sd, hsd, hsx⟩, hop⟩ := id hG.1
  refine g_aload_n (pc := 0) d_MO_setThumb_0 rfl 0 rfl ?_
  refine g_iload_n (pc := 1) d_MO_setThumb_1 rfl 1 rfl ?_
  refine g_cV1 (pc := 2) (ci := 7) (As := [.int _]) d_MO_setThumb_2 rfl mv_MO_lacksShop st_MO_setThumb_284 rfl rfl (by decide) rfl rfl (Nat.le_of_ble_eq_true rfl) k_m (cm_MO_lacksShop hM nd hG hi) ?_
  refine g_if_ne (pc := 5) (tgt := 31) d_MO_setThumb_5 (by decide) (fun c_5 => ?_) (fun c_5 => ?_)
  · exact (c_5 (by decide)).elim
  · skip
    refine g_aload_n (pc := 8) d_MO_setThumb_8 rfl 0 rfl ?_
    refine g_iload_n (pc := 9) d_MO_setThumb_9 rfl 2 rfl ?_
    refine g_iconst (pc := 10) (v := 0) d_MO_setThumb_10 (by decide) ?_
    refine g_bipush (pc := 11) (v := 100) d_MO_setThumb_11 (by decide) ?_
    refine g_cS1 (pc := 13) (As := [.int _, .int _, .int _]) d_MO_setThumb_13 rfl ms_MO_in st_MO_setThumb_161 rfl rfl (Nat.le_of_ble_eq_true rfl) (cm_MO_in_t hr1 hr2) ?_
    refine g_if_ne (pc := 16) (tgt := 23) d_MO_setThumb_16 (by decide) (fun c_16 => ?_) (fun c_16 => ?_)
    · skip
      refine g_iconst (pc := 23) (v := 0) d_MO_setThumb_23 (by decide) ?_
      refine g_iconst (pc := 24) (v := 2) d_MO_setThumb_24 (by decide) ?_
      refine g_cV1 (pc := 25) (ci := 7) (As := [.int _, .int _]) d_MO_setThumb_25 rfl mv_MO_throwsIf st_MO_setThumb_154 rfl rfl (by decide) rfl rfl (Nat.le_of_ble_eq_true rfl) k_m (cm_MO_throwsIf_f k_m nd) ?_
      refine g_if_eq (pc := 28) (tgt := 33) d_MO_setThumb_28 (by decide) (fun c_28 => ?_) (fun c_28 => ?_)
      · skip
        refine g_aload_n (pc := 33) d_MO_setThumb_33 rfl 0 rfl ?_
        refine g_iconst (pc := 34) (v := 0) d_MO_setThumb_34 (by decide) ?_
        refine g_cV0 (pc := 35) (ci := 7) (As := [.int _]) d_MO_setThumb_35 rfl mv_MO_keep st_MO_setThumb_239 rfl rfl (by decide) rfl rfl (Nat.le_of_ble_eq_true rfl) k_m (cm_MO_keep hM nd n6 s8 hk1 hk2 ho8 hk8) ?_
        refine g_aload_n (pc := 38) d_MO_setThumb_38 rfl 0 rfl ?_
        refine g_iload_n (pc := 39) d_MO_setThumb_39 rfl 1 rfl ?_
        refine g_bipush (pc := 40) (v := 6) d_MO_setThumb_40 (by decide) ?_
        refine g_cV1 (pc := 42) (ci := 7) (As := [.int _, .int _]) d_MO_setThumb_42 rfl mv_MO_of st_MO_setThumb_69 rfl rfl (by decide) rfl rfl (Nat.le_of_ble_eq_true rfl) k_m (cm_MO_of (k := 6) hM nd n6 s8 (by first | assumption | omega | decide) (by decide)) ?_
        refine g_istore_n (pc := 45) (lv' := [(3, .int (B.2.2 i 6)), (0, .ref m), (1, .int (nI i)), (2, .int x)]) d_MO_setThumb_45 rfl (by decide) rfl ?_
        refine g_aload_n (pc := 46) d_MO_setThumb_46 rfl 1 rfl ?_
        refine g_iload_n (pc := 47) d_MO_setThumb_47 rfl 2 rfl ?_
        refine g_bipush (pc := 48) (v := 6) d_MO_setThumb_48 (by decide) ?_
        refine g_iload_n (pc := 50) d_MO_setThumb_50 rfl 3 rfl ?_
        refine g_cV0 (pc := 51) (ci := 7) (As := [.int _, .int _, .int _]) d_MO_setThumb_51 rfl mv_MO_put st_MO_setThumb_65 rfl rfl (by decide) rfl rfl (Nat.le_of_ble_eq_true rfl) k_m (cm_MO_put (k := 6) hM nd n6 s8 (by first | assumption | omega | decide) (by decide)) ?_
        refine g_iload_n (pc := 54) d_MO_setThumb_54 rfl 0 rfl ?_
        refine g_iret (pc := 55) d_MO_setThumb_55 rfl ?_
        first | exact ⟨rfl, rfl⟩ | (rw [u1_u1]; exact ⟨rfl, rfl⟩)
      · exact (c_28 (by decide)).elim
    · exact absurd c_16 (by decide)
set_option maxRecDepth 20000 in
theorem cm_MO_visitN {E : En} {h : Hp} {m st nw sc : Nat} {c g : Nat → Int32} {B : Bu} {R : List (Nat × (Nat → Int32))} {ni U : Nat} {v : Int32} (hM : MoOk h m st) (nd : (m :: st :: R.map Prod.fst).Nodup) (hG : Gd B nw sc ni U) (hv : v < 0 ∨ nI sc ≤ v) : CR E m_MO_visit [.ref m, .int v] (wL h ((m, c) :: (st, enc nw sc B g) :: R)) (some (.int 0)) (wL h ((m, (u1 c 17 1)) :: (st, enc nw sc B g) :: R)) := by
  refine ct_of rfl (by decide +kernel) (Nat.le_of_ble_eq_true rfl) ?_
  show G E m_MO_visit 0 [(0, .ref m), (1, .int v)] [] (wL h ((m, c) :: (st, enc nw sc B g) :: R)) 0 0 _ noX
  obtain ⟨k_m, r_m_0, k_st, l_st⟩ := id hM
  obtain ⟨hw, n6, hs, s8, h0, hni, n3, ⟨sd, hsd, hsx⟩, hop⟩ := id hG.1
  refine g_aload_n (pc := 0) d_MO_visit_0 rfl 0 rfl ?_
  refine g_iload_n (pc := 1) d_MO_visit_1 rfl 1 rfl ?_
  refine g_cV1 (pc := 2) (ci := 7) (As := [.int _]) d_MO_visit_2 rfl mv_MO_lacksShop st_MO_visit_284 rfl rfl (by decide) rfl rfl (Nat.le_of_ble_eq_true rfl) k_m (cm_MO_lacksShopN hM nd hG hv) ?_
  refine g_if_ne (pc := 5) (tgt := 29) d_MO_visit_5 (by decide) (fun c_5 => ?_) (fun c_5 => ?_)
  · skip
    refine g_iconst (pc := 29) (v := 0) d_MO_visit_29 (by decide) ?_
    refine g_iret (pc := 30) d_MO_visit_30 rfl ?_
    first | exact ⟨rfl, rfl⟩ | (rw [u1_u1]; exact ⟨rfl, rfl⟩)
  · exact absurd c_5 (by decide)
set_option maxRecDepth 20000 in
theorem cm_MO_visitS {E : En} {h : Hp} {m st nw sc : Nat} {c g : Nat → Int32} {B : Bu} {R : List (Nat × (Nat → Int32))} {ni U : Nat} {i : Nat} (hM : MoOk h m st) (nd : (m :: st :: R.map Prod.fst).Nodup) (hG : Gd B nw sc ni U) (hi : i < sc) (hop1 : B.2.2 i 12 = 0) : CR E m_MO_visit [.ref m, .int (nI i)] (wL h ((m, c) :: (st, enc nw sc B g) :: R)) (some (.int 0)) (wL h ((m, (u1 c 17 2)) :: (st, enc nw sc B g) :: R)) := by
  refine ct_of rfl (by decide +kernel) (Nat.le_of_ble_eq_true rfl) ?_
  show G E m_MO_visit 0 [(0, .ref m), (1, .int (nI i))] [] (wL h ((m, c) :: (st, enc nw sc B g) :: R)) 0 0 _ noX
  obtain ⟨k_m, r_m_0, k_st, l_st⟩ := id hM
  obtain ⟨hw, n6, hs, s8, h0, hni, n3, ⟨sd, hsd, hsx⟩, hop⟩ := id hG.1
  refine g_aload_n (pc := 0) d_MO_visit_0 rfl 0 rfl ?_
  refine g_iload_n (pc := 1) d_MO_visit_1 rfl 1 rfl ?_
  refine g_cV1 (pc := 2) (ci := 7) (As := [.int _]) d_MO_visit_2 rfl mv_MO_lacksShop st_MO_visit_284 rfl rfl (by decide) rfl rfl (Nat.le_of_ble_eq_true rfl) k_m (cm_MO_lacksShop hM nd hG hi) ?_
  refine g_if_ne (pc := 5) (tgt := 29) d_MO_visit_5 (by decide) (fun c_5 => ?_) (fun c_5 => ?_)
  · exact (c_5 (by decide)).elim
  · skip
    refine g_aload_n (pc := 8) d_MO_visit_8 rfl 0 rfl ?_
    refine g_aload_n (pc := 9) d_MO_visit_9 rfl 0 rfl ?_
    refine g_iload_n (pc := 10) d_MO_visit_10 rfl 1 rfl ?_
    refine g_cV1 (pc := 11) (ci := 7) (As := [.int _]) d_MO_visit_11 rfl mv_MO_isOpenShop st_MO_visit_115 rfl rfl (by decide) rfl rfl (Nat.le_of_ble_eq_true rfl) k_m (cm_MO_isOpenShop_f hM nd n6 s8 hi hop1) ?_
    refine g_if_ne (pc := 14) (tgt := 21) d_MO_visit_14 (by decide) (fun c_14 => ?_) (fun c_14 => ?_)
    · exact (c_14 (by decide)).elim
    · skip
      refine g_iconst (pc := 17) (v := 1) d_MO_visit_17 (by decide) ?_
      refine g_goto (pc := 18) (tgt := 22) d_MO_visit_18 (by decide) ?_
      refine g_iconst (pc := 22) (v := 2) d_MO_visit_22 (by decide) ?_
      refine g_cV1 (pc := 23) (ci := 7) (As := [.int _, .int _]) d_MO_visit_23 rfl mv_MO_throwsIf st_MO_visit_154 rfl rfl (by decide) rfl rfl (Nat.le_of_ble_eq_true rfl) k_m (cm_MO_throwsIf_t k_m nd) ?_
      refine g_if_eq (pc := 26) (tgt := 31) d_MO_visit_26 (by decide) (fun c_26 => ?_) (fun c_26 => ?_)
      · exact absurd c_26 (by decide)
      · skip
        refine g_iconst (pc := 29) (v := 0) d_MO_visit_29 (by decide) ?_
        refine g_iret (pc := 30) d_MO_visit_30 rfl ?_
        first | exact ⟨rfl, rfl⟩ | (rw [u1_u1]; exact ⟨rfl, rfl⟩)
set_option maxRecDepth 20000 in
theorem cm_MO_complainN {E : En} {h : Hp} {m st nw sc : Nat} {c g : Nat → Int32} {B : Bu} {R : List (Nat × (Nat → Int32))} {ni U : Nat} {v : Int32} (hM : MoOk h m st) (nd : (m :: st :: R.map Prod.fst).Nodup) (hG : Gd B nw sc ni U) (hv : v < 0 ∨ nI sc ≤ v) : CR E m_MO_complain [.ref m, .int v] (wL h ((m, c) :: (st, enc nw sc B g) :: R)) (some (.int 0)) (wL h ((m, (u1 c 17 1)) :: (st, enc nw sc B g) :: R)) := by
  refine ct_of rfl (by decide +kernel) (Nat.le_of_ble_eq_true rfl) ?_
  show G E m_MO_complain 0 [(0, .ref m), (1, .int v)] [] (wL h ((m, c) :: (st, enc nw sc B g) :: R)) 0 0 _ noX
  obtain ⟨k_m, r_m_0, k_st, l_st⟩ := id hM
  obtain ⟨hw, n6, hs, s8, h0, hni, n3, ⟨sd, hsd, hsx⟩, hop⟩ := id hG.1
  refine g_aload_n (pc := 0) d_MO_complain_0 rfl 0 rfl ?_
  refine g_iload_n (pc := 1) d_MO_complain_1 rfl 1 rfl ?_
  refine g_cV1 (pc := 2) (ci := 7) (As := [.int _]) d_MO_complain_2 rfl mv_MO_lacksShop st_MO_complain_284 rfl rfl (by decide) rfl rfl (Nat.le_of_ble_eq_true rfl) k_m (cm_MO_lacksShopN hM nd hG hv) ?_
  refine g_if_ne (pc := 5) (tgt := 29) d_MO_complain_5 (by decide) (fun c_5 => ?_) (fun c_5 => ?_)
  · skip
    refine g_iconst (pc := 29) (v := 0) d_MO_complain_29 (by decide) ?_
    refine g_iret (pc := 30) d_MO_complain_30 rfl ?_
    first | exact ⟨rfl, rfl⟩ | (rw [u1_u1]; exact ⟨rfl, rfl⟩)
  · exact absurd c_5 (by decide)
set_option maxRecDepth 20000 in
theorem cm_MO_complainS {E : En} {h : Hp} {m st nw sc : Nat} {c g : Nat → Int32} {B : Bu} {R : List (Nat × (Nat → Int32))} {ni U : Nat} {i : Nat} (hM : MoOk h m st) (nd : (m :: st :: R.map Prod.fst).Nodup) (hG : Gd B nw sc ni U) (hi : i < sc) (hop1 : B.2.2 i 12 = 0) : CR E m_MO_complain [.ref m, .int (nI i)] (wL h ((m, c) :: (st, enc nw sc B g) :: R)) (some (.int 0)) (wL h ((m, (u1 c 17 2)) :: (st, enc nw sc B g) :: R)) := by
  refine ct_of rfl (by decide +kernel) (Nat.le_of_ble_eq_true rfl) ?_
  show G E m_MO_complain 0 [(0, .ref m), (1, .int (nI i))] [] (wL h ((m, c) :: (st, enc nw sc B g) :: R)) 0 0 _ noX
  obtain ⟨k_m, r_m_0, k_st, l_st⟩ := id hM
  obtain ⟨hw, n6, hs, s8, h0, hni, n3, ⟨sd, hsd, hsx⟩, hop⟩ := id hG.1
  refine g_aload_n (pc := 0) d_MO_complain_0 rfl 0 rfl ?_
  refine g_iload_n (pc := 1) d_MO_complain_1 rfl 1 rfl ?_
  refine g_cV1 (pc := 2) (ci := 7) (As := [.int _]) d_MO_complain_2 rfl mv_MO_lacksShop st_MO_complain_284 rfl rfl (by decide) rfl rfl (Nat.le_of_ble_eq_true rfl) k_m (cm_MO_lacksShop hM nd hG hi) ?_
  refine g_if_ne (pc := 5) (tgt := 29) d_MO_complain_5 (by decide) (fun c_5 => ?_) (fun c_5 => ?_)
  · exact (c_5 (by decide)).elim
  · skip
    refine g_aload_n (pc := 8) d_MO_complain_8 rfl 0 rfl ?_
    refine g_aload_n (pc := 9) d_MO_complain_9 rfl 0 rfl ?_
    refine g_iload_n (pc := 10) d_MO_complain_10 rfl 1 rfl ?_
    refine g_cV1 (pc := 11) (ci := 7) (As := [.int _]) d_MO_complain_11 rfl mv_MO_isOpenShop st_MO_complain_115 rfl rfl (by decide) rfl rfl (Nat.le_of_ble_eq_true rfl) k_m (cm_MO_isOpenShop_f hM nd n6 s8 hi hop1) ?_
    refine g_if_ne (pc := 14) (tgt := 21) d_MO_complain_14 (by decide) (fun c_14 => ?_) (fun c_14 => ?_)
    · exact (c_14 (by decide)).elim
    · skip
      refine g_iconst (pc := 17) (v := 1) d_MO_complain_17 (by decide) ?_
      refine g_goto (pc := 18) (tgt := 22) d_MO_complain_18 (by decide) ?_
      refine g_iconst (pc := 22) (v := 2) d_MO_complain_22 (by decide) ?_
      refine g_cV1 (pc := 23) (ci := 7) (As := [.int _, .int _]) d_MO_complain_23 rfl mv_MO_throwsIf st_MO_complain_154 rfl rfl (by decide) rfl rfl (Nat.le_of_ble_eq_true rfl) k_m (cm_MO_throwsIf_t k_m nd) ?_
      refine g_if_eq (pc := 26) (tgt := 31) d_MO_complain_26 (by decide) (fun c_26 => ?_) (fun c_26 => ?_)
      · exact absurd c_26 (by decide)
      · skip
        refine g_iconst (pc := 29) (v := 0) d_MO_complain_29 (by decide) ?_
        refine g_iret (pc := 30) d_MO_complain_30 rfl ?_
        first | exact ⟨rfl, rfl⟩ | (rw [u1_u1]; exact ⟨rfl, rfl⟩)
set_option maxRecDepth 20000 in
theorem cm_MO_reopenN {E : En} {h : Hp} {m st nw sc : Nat} {c g : Nat → Int32} {B : Bu} {R : List (Nat × (Nat → Int32))} {ni U : Nat} {v : Int32} (hM : MoOk h m st) (nd : (m :: st :: R.map Prod.fst).Nodup) (hG : Gd B nw sc ni U) (hv : v < 0 ∨ nI sc ≤ v) : CR E m_MO_reopen [.ref m, .int v] (wL h ((m, c) :: (st, enc nw sc B g) :: R)) (some (.int 0)) (wL h ((m, (u1 c 17 1)) :: (st, enc nw sc B g) :: R)) := by
  refine ct_of rfl (by decide +kernel) (Nat.le_of_ble_eq_true rfl) ?_
  show G E m_MO_reopen 0 [(0, .ref m), (1, .int v)] [] (wL h ((m, c) :: (st, enc nw sc B g) :: R)) 0 0 _ noX
  obtain ⟨k_m, r_m_0, k_st, l_st⟩ := id hM
  obtain ⟨hw, n6, hs, s8, h0, hni, n3, ⟨sd, hsd, hsx⟩, hop⟩ := id hG.1
  refine g_aload_n (pc := 0) d_MO_reopen_0 rfl 0 rfl ?_
  refine g_iload_n (pc := 1) d_MO_reopen_1 rfl 1 rfl ?_
  refine g_cV1 (pc := 2) (ci := 7) (As := [.int _]) d_MO_reopen_2 rfl mv_MO_lacksShop st_MO_reopen_284 rfl rfl (by decide) rfl rfl (Nat.le_of_ble_eq_true rfl) k_m (cm_MO_lacksShopN hM nd hG hv) ?_
  refine g_if_ne (pc := 5) (tgt := 21) d_MO_reopen_5 (by decide) (fun c_5 => ?_) (fun c_5 => ?_)
  · skip
    refine g_iconst (pc := 21) (v := 0) d_MO_reopen_21 (by decide) ?_
    refine g_iret (pc := 22) d_MO_reopen_22 rfl ?_
    first | exact ⟨rfl, rfl⟩ | (rw [u1_u1]; exact ⟨rfl, rfl⟩)
  · exact absurd c_5 (by decide)
set_option maxRecDepth 20000 in
theorem cm_MO_reopenS {E : En} {h : Hp} {m st nw sc : Nat} {c g : Nat → Int32} {B : Bu} {R : List (Nat × (Nat → Int32))} {ni U : Nat} {i : Nat} (hM : MoOk h m st) (nd : (m :: st :: R.map Prod.fst).Nodup) (hG : Gd B nw sc ni U) (hi : i < sc) (hop1 : B.2.2 i 12 = 1) : CR E m_MO_reopen [.ref m, .int (nI i)] (wL h ((m, c) :: (st, enc nw sc B g) :: R)) (some (.int 0)) (wL h ((m, (u1 c 17 2)) :: (st, enc nw sc B g) :: R)) := by
  refine ct_of rfl (by decide +kernel) (Nat.le_of_ble_eq_true rfl) ?_
  show G E m_MO_reopen 0 [(0, .ref m), (1, .int (nI i))] [] (wL h ((m, c) :: (st, enc nw sc B g) :: R)) 0 0 _ noX
  obtain ⟨k_m, r_m_0, k_st, l_st⟩ := id hM
  obtain ⟨hw, n6, hs, s8, h0, hni, n3, ⟨sd, hsd, hsx⟩, hop⟩ := id hG.1
  refine g_aload_n (pc := 0) d_MO_reopen_0 rfl 0 rfl ?_
  refine g_iload_n (pc := 1) d_MO_reopen_1 rfl 1 rfl ?_
  refine g_cV1 (pc := 2) (ci := 7) (As := [.int _]) d_MO_reopen_2 rfl mv_MO_lacksShop st_MO_reopen_284 rfl rfl (by decide) rfl rfl (Nat.le_of_ble_eq_true rfl) k_m (cm_MO_lacksShop hM nd hG hi) ?_
  refine g_if_ne (pc := 5) (tgt := 21) d_MO_reopen_5 (by decide) (fun c_5 => ?_) (fun c_5 => ?_)
  · exact (c_5 (by decide)).elim
  · skip
    refine g_aload_n (pc := 8) d_MO_reopen_8 rfl 0 rfl ?_
    refine g_aload_n (pc := 9) d_MO_reopen_9 rfl 0 rfl ?_
    refine g_iload_n (pc := 10) d_MO_reopen_10 rfl 1 rfl ?_
    refine g_cV1 (pc := 11) (ci := 7) (As := [.int _]) d_MO_reopen_11 rfl mv_MO_isOpenShop st_MO_reopen_115 rfl rfl (by decide) rfl rfl (Nat.le_of_ble_eq_true rfl) k_m (cm_MO_isOpenShop_t hM nd n6 s8 hi hop1) ?_
    refine g_iconst (pc := 14) (v := 2) d_MO_reopen_14 (by decide) ?_
    refine g_cV1 (pc := 15) (ci := 7) (As := [.int _, .int _]) d_MO_reopen_15 rfl mv_MO_throwsIf st_MO_reopen_154 rfl rfl (by decide) rfl rfl (Nat.le_of_ble_eq_true rfl) k_m (cm_MO_throwsIf_t k_m nd) ?_
    refine g_if_eq (pc := 18) (tgt := 23) d_MO_reopen_18 (by decide) (fun c_18 => ?_) (fun c_18 => ?_)
    · exact absurd c_18 (by decide)
    · skip
      refine g_iconst (pc := 21) (v := 0) d_MO_reopen_21 (by decide) ?_
      refine g_iret (pc := 22) d_MO_reopen_22 rfl ?_
      first | exact ⟨rfl, rfl⟩ | (rw [u1_u1]; exact ⟨rfl, rfl⟩)
set_option maxRecDepth 20000 in
theorem cm_MO_repairN {E : En} {h : Hp} {m st nw sc : Nat} {c g : Nat → Int32} {B : Bu} {R : List (Nat × (Nat → Int32))} {ni U : Nat} {v : Int32} (hM : MoOk h m st) (nd : (m :: st :: R.map Prod.fst).Nodup) (hG : Gd B nw sc ni U) (hv : v < 0 ∨ nI sc ≤ v) : CR E m_MO_repair [.ref m, .int v] (wL h ((m, c) :: (st, enc nw sc B g) :: R)) (some (.int 0)) (wL h ((m, (u1 c 17 1)) :: (st, enc nw sc B g) :: R)) := by
  refine ct_of rfl (by decide +kernel) (Nat.le_of_ble_eq_true rfl) ?_
  show G E m_MO_repair 0 [(0, .ref m), (1, .int v)] [] (wL h ((m, c) :: (st, enc nw sc B g) :: R)) 0 0 _ noX
  obtain ⟨k_m, r_m_0, k_st, l_st⟩ := id hM
  obtain ⟨hw, n6, hs, s8, h0, hni, n3, ⟨sd, hsd, hsx⟩, hop⟩ := id hG.1
  refine g_aload_n (pc := 0) d_MO_repair_0 rfl 0 rfl ?_
  refine g_iload_n (pc := 1) d_MO_repair_1 rfl 1 rfl ?_
  refine g_cV1 (pc := 2) (ci := 7) (As := [.int _]) d_MO_repair_2 rfl mv_MO_lacksShop st_MO_repair_284 rfl rfl (by decide) rfl rfl (Nat.le_of_ble_eq_true rfl) k_m (cm_MO_lacksShopN hM nd hG hv) ?_
  refine g_if_ne (pc := 5) (tgt := 29) d_MO_repair_5 (by decide) (fun c_5 => ?_) (fun c_5 => ?_)
  · skip
    refine g_iconst (pc := 29) (v := 0) d_MO_repair_29 (by decide) ?_
    refine g_iret (pc := 30) d_MO_repair_30 rfl ?_
    first | exact ⟨rfl, rfl⟩ | (rw [u1_u1]; exact ⟨rfl, rfl⟩)
  · exact absurd c_5 (by decide)
set_option maxRecDepth 20000 in
theorem cm_MO_repairS {E : En} {h : Hp} {m st nw sc : Nat} {c g : Nat → Int32} {B : Bu} {R : List (Nat × (Nat → Int32))} {ni U : Nat} {i : Nat} (hM : MoOk h m st) (nd : (m :: st :: R.map Prod.fst).Nodup) (hG : Gd B nw sc ni U) (hi : i < sc) (hpay : M_canPay (B.2.2 i) = false) : CR E m_MO_repair [.ref m, .int (nI i)] (wL h ((m, c) :: (st, enc nw sc B g) :: R)) (some (.int 0)) (wL h ((m, (u1 c 17 2)) :: (st, enc nw sc B g) :: R)) := by
  refine ct_of rfl (by decide +kernel) (Nat.le_of_ble_eq_true rfl) ?_
  show G E m_MO_repair 0 [(0, .ref m), (1, .int (nI i))] [] (wL h ((m, c) :: (st, enc nw sc B g) :: R)) 0 0 _ noX
  obtain ⟨k_m, r_m_0, k_st, l_st⟩ := id hM
  obtain ⟨hw, n6, hs, s8, h0, hni, n3, ⟨sd, hsd, hsx⟩, hop⟩ := id hG.1
  refine g_aload_n (pc := 0) d_MO_repair_0 rfl 0 rfl ?_
  refine g_iload_n (pc := 1) d_MO_repair_1 rfl 1 rfl ?_
  refine g_cV1 (pc := 2) (ci := 7) (As := [.int _]) d_MO_repair_2 rfl mv_MO_lacksShop st_MO_repair_284 rfl rfl (by decide) rfl rfl (Nat.le_of_ble_eq_true rfl) k_m (cm_MO_lacksShop hM nd hG hi) ?_
  refine g_if_ne (pc := 5) (tgt := 29) d_MO_repair_5 (by decide) (fun c_5 => ?_) (fun c_5 => ?_)
  · exact (c_5 (by decide)).elim
  · skip
    refine g_aload_n (pc := 8) d_MO_repair_8 rfl 0 rfl ?_
    refine g_aload_n (pc := 9) d_MO_repair_9 rfl 0 rfl ?_
    refine g_iload_n (pc := 10) d_MO_repair_10 rfl 1 rfl ?_
    refine g_cV1 (pc := 11) (ci := 7) (As := [.int _]) d_MO_repair_11 rfl mv_MO_canRepair st_MO_repair_251 rfl rfl (by decide) rfl rfl (Nat.le_of_ble_eq_true rfl) k_m (cm_MO_canRepair_f hM nd hG hi hpay) ?_
    refine g_if_ne (pc := 14) (tgt := 21) d_MO_repair_14 (by decide) (fun c_14 => ?_) (fun c_14 => ?_)
    · exact (c_14 (by decide)).elim
    · skip
      refine g_iconst (pc := 17) (v := 1) d_MO_repair_17 (by decide) ?_
      refine g_goto (pc := 18) (tgt := 22) d_MO_repair_18 (by decide) ?_
      refine g_iconst (pc := 22) (v := 2) d_MO_repair_22 (by decide) ?_
      refine g_cV1 (pc := 23) (ci := 7) (As := [.int _, .int _]) d_MO_repair_23 rfl mv_MO_throwsIf st_MO_repair_154 rfl rfl (by decide) rfl rfl (Nat.le_of_ble_eq_true rfl) k_m (cm_MO_throwsIf_t k_m nd) ?_
      refine g_if_eq (pc := 26) (tgt := 31) d_MO_repair_26 (by decide) (fun c_26 => ?_) (fun c_26 => ?_)
      · exact absurd c_26 (by decide)
      · skip
        refine g_iconst (pc := 29) (v := 0) d_MO_repair_29 (by decide) ?_
        refine g_iret (pc := 30) d_MO_repair_30 rfl ?_
        first | exact ⟨rfl, rfl⟩ | (rw [u1_u1]; exact ⟨rfl, rfl⟩)
set_option maxRecDepth 20000 in
theorem cm_MO_setThumbN {E : En} {h : Hp} {m st nw sc : Nat} {c g : Nat → Int32} {B : Bu} {R : List (Nat × (Nat → Int32))} {ni U : Nat} {v x : Int32} (hM : MoOk h m st) (nd : (m :: st :: R.map Prod.fst).Nodup) (hG : Gd B nw sc ni U) (hv : v < 0 ∨ nI sc ≤ v) : CR E m_MO_setThumb [.ref m, .int v, .int x] (wL h ((m, c) :: (st, enc nw sc B g) :: R)) (some (.int 0)) (wL h ((m, (u1 c 17 1)) :: (st, enc nw sc B g) :: R)) := by
  refine ct_of rfl (by decide +kernel) (Nat.le_of_ble_eq_true rfl) ?_
  show G E m_MO_setThumb 0 [(0, .ref m), (1, .int v), (2, .int x)] [] (wL h ((m, c) :: (st, enc nw sc B g) :: R)) 0 0 _ noX
  obtain ⟨k_m, r_m_0, k_st, l_st⟩ := id hM
  obtain ⟨hw, n6, hs, s8, h0, hni, n3, ⟨sd, hsd, hsx⟩, hop⟩ := id hG.1
  refine g_aload_n (pc := 0) d_MO_setThumb_0 rfl 0 rfl ?_
  refine g_iload_n (pc := 1) d_MO_setThumb_1 rfl 1 rfl ?_
  refine g_cV1 (pc := 2) (ci := 7) (As := [.int _]) d_MO_setThumb_2 rfl mv_MO_lacksShop st_MO_setThumb_284 rfl rfl (by decide) rfl rfl (Nat.le_of_ble_eq_true rfl) k_m (cm_MO_lacksShopN hM nd hG hv) ?_
  refine g_if_ne (pc := 5) (tgt := 31) d_MO_setThumb_5 (by decide) (fun c_5 => ?_) (fun c_5 => ?_)
  · skip
    refine g_iconst (pc := 31) (v := 0) d_MO_setThumb_31 (by decide) ?_
    refine g_iret (pc := 32) d_MO_setThumb_32 rfl ?_
    first | exact ⟨rfl, rfl⟩ | (rw [u1_u1]; exact ⟨rfl, rfl⟩)
  · exact absurd c_5 (by decide)
set_option maxRecDepth 20000 in
theorem cm_MO_setThumbR {E : En} {h : Hp} {m st nw sc : Nat} {c g : Nat → Int32} {B : Bu} {R : List (Nat × (Nat → Int32))} {ni U : Nat} {i : Nat} {x : Int32} (hM : MoOk h m st) (nd : (m :: st :: R.map Prod.fst).Nodup) (hG : Gd B nw sc ni U) (hi : i < sc) (hrn : x < 0 ∨ 100 < x) : CR E m_MO_setThumb [.ref m, .int (nI i), .int x] (wL h ((m, c) :: (st, enc nw sc B g) :: R)) (some (.int 0)) (wL h ((m, (u1 c 17 2)) :: (st, enc nw sc B g) :: R)) := by
  refine ct_of rfl (by decide +kernel) (Nat.le_of_ble_eq_true rfl) ?_
  show G E m_MO_setThumb 0 [(0, .ref m), (1, .int (nI i)), (2, .int x)] [] (wL h ((m, c) :: (st, enc nw sc B g) :: R)) 0 0 _ noX
  obtain ⟨k_m, r_m_0, k_st, l_st⟩ := id hM
  obtain ⟨hw, n6, hs, s8, h0, hni, n3, ⟨sd, hsd, hsx⟩, hop⟩ := id hG.1
  refine g_aload_n (pc := 0) d_MO_setThumb_0 rfl 0 rfl ?_
  refine g_iload_n (pc := 1) d_MO_setThumb_1 rfl 1 rfl ?_
  refine g_cV1 (pc := 2) (ci := 7) (As := [.int _]) d_MO_setThumb_2 rfl mv_MO_lacksShop st_MO_setThumb_284 rfl rfl (by decide) rfl rfl (Nat.le_of_ble_eq_true rfl) k_m (cm_MO_lacksShop hM nd hG hi) ?_
  refine g_if_ne (pc := 5) (tgt := 31) d_MO_setThumb_5 (by decide) (fun c_5 => ?_) (fun c_5 => ?_)
  · exact (c_5 (by decide)).elim
  · skip
    refine g_aload_n (pc := 8) d_MO_setThumb_8 rfl 0 rfl ?_
    refine g_iload_n (pc := 9) d_MO_setThumb_9 rfl 2 rfl ?_
    refine g_iconst (pc := 10) (v := 0) d_MO_setThumb_10 (by decide) ?_
    refine g_bipush (pc := 11) (v := 100) d_MO_setThumb_11 (by decide) ?_
    refine g_cS1 (pc := 13) (As := [.int _, .int _, .int _]) d_MO_setThumb_13 rfl ms_MO_in st_MO_setThumb_161 rfl rfl (Nat.le_of_ble_eq_true rfl) (cm_MO_in_f hrn) ?_
    refine g_if_ne (pc := 16) (tgt := 23) d_MO_setThumb_16 (by decide) (fun c_16 => ?_) (fun c_16 => ?_)
    · exact (c_16 (by decide)).elim
    · skip
      refine g_iconst (pc := 19) (v := 1) d_MO_setThumb_19 (by decide) ?_
      refine g_goto (pc := 20) (tgt := 24) d_MO_setThumb_20 (by decide) ?_
      refine g_iconst (pc := 24) (v := 2) d_MO_setThumb_24 (by decide) ?_
      refine g_cV1 (pc := 25) (ci := 7) (As := [.int _, .int _]) d_MO_setThumb_25 rfl mv_MO_throwsIf st_MO_setThumb_154 rfl rfl (by decide) rfl rfl (Nat.le_of_ble_eq_true rfl) k_m (cm_MO_throwsIf_t k_m nd) ?_
      refine g_if_eq (pc := 28) (tgt := 33) d_MO_setThumb_28 (by decide) (fun c_28 => ?_) (fun c_28 => ?_)
      · exact absurd c_28 (by decide)
      · skip
        refine g_iconst (pc := 31) (v := 0) d_MO_setThumb_31 (by decide) ?_
        refine g_iret (pc := 32) d_MO_setThumb_32 rfl ?_
        first | exact ⟨rfl, rfl⟩ | (rw [u1_u1]; exact ⟨rfl, rfl⟩)
set_option maxRecDepth 20000 in
theorem cm_MO_purseAfterN {E : En} {h : Hp} {m st nw sc : Nat} {c g : Nat → Int32} {B : Bu} {R : List (Nat × (Nat → Int32))} {ni U : Nat} {v x : Int32} (hM : MoOk h m st) (nd : (m :: st :: R.map Prod.fst).Nodup) (hG : Gd B nw sc ni U) (hv : v < 0 ∨ nI sc ≤ v) : CR E m_MO_purseAfter [.ref m, .int v, .int x] (wL h ((m, c) :: (st, enc nw sc B g) :: R)) (some (.int 0)) (wL h ((m, (u1 c 17 1)) :: (st, enc nw sc B g) :: R)) := by
  refine ct_of rfl (by decide +kernel) (Nat.le_of_ble_eq_true rfl) ?_
  show G E m_MO_purseAfter 0 [(0, .ref m), (1, .int v), (2, .int x)] [] (wL h ((m, c) :: (st, enc nw sc B g) :: R)) 0 0 _ noX
  obtain ⟨k_m, r_m_0, k_st, l_st⟩ := id hM
  obtain ⟨hw, n6, hs, s8, h0, hni, n3, ⟨sd, hsd, hsx⟩, hop⟩ := id hG.1
  refine g_aload_n (pc := 0) d_MO_purseAfter_0 rfl 0 rfl ?_
  refine g_iload_n (pc := 1) d_MO_purseAfter_1 rfl 1 rfl ?_
  refine g_cV1 (pc := 2) (ci := 7) (As := [.int _]) d_MO_purseAfter_2 rfl mv_MO_lacksShop st_MO_purseAfter_284 rfl rfl (by decide) rfl rfl (Nat.le_of_ble_eq_true rfl) k_m (cm_MO_lacksShopN hM nd hG hv) ?_
  refine g_if_ne (pc := 5) (tgt := 32) d_MO_purseAfter_5 (by decide) (fun c_5 => ?_) (fun c_5 => ?_)
  · skip
    refine g_iconst (pc := 32) (v := 0) d_MO_purseAfter_32 (by decide) ?_
    refine g_iret (pc := 33) d_MO_purseAfter_33 rfl ?_
    first | exact ⟨rfl, rfl⟩ | (rw [u1_u1]; exact ⟨rfl, rfl⟩)
  · exact absurd c_5 (by decide)
set_option maxRecDepth 20000 in
theorem cm_MO_purseAfterR {E : En} {h : Hp} {m st nw sc : Nat} {c g : Nat → Int32} {B : Bu} {R : List (Nat × (Nat → Int32))} {ni U : Nat} {i : Nat} {x : Int32} (hM : MoOk h m st) (nd : (m :: st :: R.map Prod.fst).Nodup) (hG : Gd B nw sc ni U) (hi : i < sc) (hrn : x < 0 ∨ 200 < x) : CR E m_MO_purseAfter [.ref m, .int (nI i), .int x] (wL h ((m, c) :: (st, enc nw sc B g) :: R)) (some (.int 0)) (wL h ((m, (u1 c 17 2)) :: (st, enc nw sc B g) :: R)) := by
  refine ct_of rfl (by decide +kernel) (Nat.le_of_ble_eq_true rfl) ?_
  show G E m_MO_purseAfter 0 [(0, .ref m), (1, .int (nI i)), (2, .int x)] [] (wL h ((m, c) :: (st, enc nw sc B g) :: R)) 0 0 _ noX
  obtain ⟨k_m, r_m_0, k_st, l_st⟩ := id hM
  obtain ⟨hw, n6, hs, s8, h0, hni, n3, ⟨sd, hsd, hsx⟩, hop⟩ := id hG.1
  refine g_aload_n (pc := 0) d_MO_purseAfter_0 rfl 0 rfl ?_
  refine g_iload_n (pc := 1) d_MO_purseAfter_1 rfl 1 rfl ?_
  refine g_cV1 (pc := 2) (ci := 7) (As := [.int _]) d_MO_purseAfter_2 rfl mv_MO_lacksShop st_MO_purseAfter_284 rfl rfl (by decide) rfl rfl (Nat.le_of_ble_eq_true rfl) k_m (cm_MO_lacksShop hM nd hG hi) ?_
  refine g_if_ne (pc := 5) (tgt := 32) d_MO_purseAfter_5 (by decide) (fun c_5 => ?_) (fun c_5 => ?_)
  · exact (c_5 (by decide)).elim
  · skip
    refine g_aload_n (pc := 8) d_MO_purseAfter_8 rfl 0 rfl ?_
    refine g_iload_n (pc := 9) d_MO_purseAfter_9 rfl 2 rfl ?_
    refine g_iconst (pc := 10) (v := 0) d_MO_purseAfter_10 (by decide) ?_
    refine g_sipush (pc := 11) (v := 200) d_MO_purseAfter_11 (by decide) ?_
    refine g_cS1 (pc := 14) (As := [.int _, .int _, .int _]) d_MO_purseAfter_14 rfl ms_MO_in st_MO_purseAfter_161 rfl rfl (Nat.le_of_ble_eq_true rfl) (cm_MO_in_f hrn) ?_
    refine g_if_ne (pc := 17) (tgt := 24) d_MO_purseAfter_17 (by decide) (fun c_17 => ?_) (fun c_17 => ?_)
    · exact (c_17 (by decide)).elim
    · skip
      refine g_iconst (pc := 20) (v := 1) d_MO_purseAfter_20 (by decide) ?_
      refine g_goto (pc := 21) (tgt := 25) d_MO_purseAfter_21 (by decide) ?_
      refine g_iconst (pc := 25) (v := 2) d_MO_purseAfter_25 (by decide) ?_
      refine g_cV1 (pc := 26) (ci := 7) (As := [.int _, .int _]) d_MO_purseAfter_26 rfl mv_MO_throwsIf st_MO_purseAfter_154 rfl rfl (by decide) rfl rfl (Nat.le_of_ble_eq_true rfl) k_m (cm_MO_throwsIf_t k_m nd) ?_
      refine g_if_eq (pc := 29) (tgt := 34) d_MO_purseAfter_29 (by decide) (fun c_29 => ?_) (fun c_29 => ?_)
      · exact absurd c_29 (by decide)
      · skip
        refine g_iconst (pc := 32) (v := 0) d_MO_purseAfter_32 (by decide) ?_
        refine g_iret (pc := 33) d_MO_purseAfter_33 rfl ?_
        first | exact ⟨rfl, rfl⟩ | (rw [u1_u1]; exact ⟨rfl, rfl⟩)
set_option maxRecDepth 20000 in
theorem cm_MO_bestThumbN {E : En} {h : Hp} {m st nw sc : Nat} {c g : Nat → Int32} {B : Bu} {R : List (Nat × (Nat → Int32))} {ni U : Nat} {v x : Int32} (hM : MoOk h m st) (nd : (m :: st :: R.map Prod.fst).Nodup) (hG : Gd B nw sc ni U) (hv : v < 0 ∨ nI sc ≤ v) : CR E m_MO_bestThumb [.ref m, .int v, .int x] (wL h ((m, c) :: (st, enc nw sc B g) :: R)) (some (.int 0)) (wL h ((m, (u1 c 17 1)) :: (st, enc nw sc B g) :: R)) := by
  refine ct_of rfl (by decide +kernel) (Nat.le_of_ble_eq_true rfl) ?_
  show G E m_MO_bestThumb 0 [(0, .ref m), (1, .int v), (2, .int x)] [] (wL h ((m, c) :: (st, enc nw sc B g) :: R)) 0 0 _ noX
  obtain ⟨k_m, r_m_0, k_st, l_st⟩ := id hM
  obtain ⟨hw, n6, hs, s8, h0, hni, n3, ⟨sd, hsd, hsx⟩, hop⟩ := id hG.1
  refine g_aload_n (pc := 0) d_MO_bestThumb_0 rfl 0 rfl ?_
  refine g_iload_n (pc := 1) d_MO_bestThumb_1 rfl 1 rfl ?_
  refine g_cV1 (pc := 2) (ci := 7) (As := [.int _]) d_MO_bestThumb_2 rfl mv_MO_lacksShop st_MO_bestThumb_284 rfl rfl (by decide) rfl rfl (Nat.le_of_ble_eq_true rfl) k_m (cm_MO_lacksShopN hM nd hG hv) ?_
  refine g_if_ne (pc := 5) (tgt := 31) d_MO_bestThumb_5 (by decide) (fun c_5 => ?_) (fun c_5 => ?_)
  · skip
    refine g_iconst (pc := 31) (v := 0) d_MO_bestThumb_31 (by decide) ?_
    refine g_iret (pc := 32) d_MO_bestThumb_32 rfl ?_
    first | exact ⟨rfl, rfl⟩ | (rw [u1_u1]; exact ⟨rfl, rfl⟩)
  · exact absurd c_5 (by decide)
set_option maxRecDepth 20000 in
theorem cm_MO_bestThumbR {E : En} {h : Hp} {m st nw sc : Nat} {c g : Nat → Int32} {B : Bu} {R : List (Nat × (Nat → Int32))} {ni U : Nat} {i : Nat} {x : Int32} (hM : MoOk h m st) (nd : (m :: st :: R.map Prod.fst).Nodup) (hG : Gd B nw sc ni U) (hi : i < sc) (hrn : x < 1 ∨ 100 < x) : CR E m_MO_bestThumb [.ref m, .int (nI i), .int x] (wL h ((m, c) :: (st, enc nw sc B g) :: R)) (some (.int 0)) (wL h ((m, (u1 c 17 2)) :: (st, enc nw sc B g) :: R)) := by
  refine ct_of rfl (by decide +kernel) (Nat.le_of_ble_eq_true rfl) ?_
  show G E m_MO_bestThumb 0 [(0, .ref m), (1, .int (nI i)), (2, .int x)] [] (wL h ((m, c) :: (st, enc nw sc B g) :: R)) 0 0 _ noX
  obtain ⟨k_m, r_m_0, k_st, l_st⟩ := id hM
  obtain ⟨hw, n6, hs, s8, h0, hni, n3, ⟨sd, hsd, hsx⟩, hop⟩ := id hG.1
  refine g_aload_n (pc := 0) d_MO_bestThumb_0 rfl 0 rfl ?_
  refine g_iload_n (pc := 1) d_MO_bestThumb_1 rfl 1 rfl ?_
  refine g_cV1 (pc := 2) (ci := 7) (As := [.int _]) d_MO_bestThumb_2 rfl mv_MO_lacksShop st_MO_bestThumb_284 rfl rfl (by decide) rfl rfl (Nat.le_of_ble_eq_true rfl) k_m (cm_MO_lacksShop hM nd hG hi) ?_
  refine g_if_ne (pc := 5) (tgt := 31) d_MO_bestThumb_5 (by decide) (fun c_5 => ?_) (fun c_5 => ?_)
  · exact (c_5 (by decide)).elim
  · skip
    refine g_aload_n (pc := 8) d_MO_bestThumb_8 rfl 0 rfl ?_
    refine g_iload_n (pc := 9) d_MO_bestThumb_9 rfl 2 rfl ?_
    refine g_iconst (pc := 10) (v := 1) d_MO_bestThumb_10 (by decide) ?_
    refine g_bipush (pc := 11) (v := 100) d_MO_bestThumb_11 (by decide) ?_
    refine g_cS1 (pc := 13) (As := [.int _, .int _, .int _]) d_MO_bestThumb_13 rfl ms_MO_in st_MO_bestThumb_161 rfl rfl (Nat.le_of_ble_eq_true rfl) (cm_MO_in_f hrn) ?_
    refine g_if_ne (pc := 16) (tgt := 23) d_MO_bestThumb_16 (by decide) (fun c_16 => ?_) (fun c_16 => ?_)
    · exact (c_16 (by decide)).elim
    · skip
      refine g_iconst (pc := 19) (v := 1) d_MO_bestThumb_19 (by decide) ?_
      refine g_goto (pc := 20) (tgt := 24) d_MO_bestThumb_20 (by decide) ?_
      refine g_iconst (pc := 24) (v := 2) d_MO_bestThumb_24 (by decide) ?_
      refine g_cV1 (pc := 25) (ci := 7) (As := [.int _, .int _]) d_MO_bestThumb_25 rfl mv_MO_throwsIf st_MO_bestThumb_154 rfl rfl (by decide) rfl rfl (Nat.le_of_ble_eq_true rfl) k_m (cm_MO_throwsIf_t k_m nd) ?_
      refine g_if_eq (pc := 28) (tgt := 33) d_MO_bestThumb_28 (by decide) (fun c_28 => ?_) (fun c_28 => ?_)
      · exact absurd c_28 (by decide)
      · skip
        refine g_iconst (pc := 31) (v := 0) d_MO_bestThumb_31 (by decide) ?_
        refine g_iret (pc := 32) d_MO_bestThumb_32 rfl ?_
        first | exact ⟨rfl, rfl⟩ | (rw [u1_u1]; exact ⟨rfl, rfl⟩)
set_option maxRecDepth 20000 in
theorem cm_MO_change5 {E : En} {h : Hp} {m st nw sc : Nat} {c g : Nat → Int32} {B : Bu} {R : List (Nat × (Nat → Int32))} {old kept : Nat} {x : Int32} (hM : MoOk h m st) (nd : (m :: st :: R.map Prod.fst).Nodup) (n6 : nw ≤ 6) (s8 : sc ≤ 8) (hk1 : c 1 = nI old) (hk2 : c 2 = nI kept) (ho8 : old < 8) (hk8 : kept ≤ 8) : CR E m_MO_change [.ref m, .int 5, .int x] (wL h ((m, c) :: (st, enc nw sc B g) :: R)) (some (.int (B.1 5))) (wL h ((m, (kpC c old kept)) :: (st, enc nw sc (sC B (u1 B.1 5 x)) (KC (enc nw sc B g) 0 (1 + (old + kept) % 8))) :: R)) := by
  refine ct_of rfl (by decide +kernel) (Nat.le_of_ble_eq_true rfl) ?_
  show G E m_MO_change 0 [(0, .ref m), (1, .int 5), (2, .int x)] [] (wL h ((m, c) :: (st, enc nw sc B g) :: R)) 0 0 _ noX
  obtain ⟨k_m, r_m_0, k_st, l_st⟩ := id hM
  refine g_aload_n (pc := 0) d_MO_change_0 rfl 0 rfl ?_
  refine g_iconst (pc := 1) (v := 0) d_MO_change_1 (by decide) ?_
  refine g_cV0 (pc := 2) (ci := 7) (As := [.int _]) d_MO_change_2 rfl mv_MO_keep st_MO_change_239 rfl rfl (by decide) rfl rfl (Nat.le_of_ble_eq_true rfl) k_m (cm_MO_keep hM nd n6 s8 hk1 hk2 ho8 hk8) ?_
  refine g_aload_n (pc := 5) d_MO_change_5 rfl 0 rfl ?_
  refine g_getR (pc := 6) (ci := 7) (f := 0) (b := st) rfl r_m_0 d_MO_change_6 fl_MO_7 (by decide) k_m ?_
  refine g_iload_n (pc := 9) d_MO_change_9 rfl 1 rfl ?_
  refine g_mI (pc := 10) (k := 5) d_MO_change_10 k_st l_st (by decide) nd ?_
  refine g_istore_n (pc := 11) (lv' := [(3, .int (B.1 5)), (0, .ref m), (1, .int 5), (2, .int x)]) d_MO_change_11 rfl (by decide) rfl ?_
  refine g_aload_n (pc := 12) d_MO_change_12 rfl 1 rfl ?_
  refine g_getR (pc := 13) (ci := 7) (f := 0) (b := st) rfl r_m_0 d_MO_change_13 fl_MO_7 (by decide) k_m ?_
  refine g_iload_n (pc := 16) d_MO_change_16 rfl 2 rfl ?_
  refine g_iload_n (pc := 17) d_MO_change_17 rfl 3 rfl ?_
  refine g_mIS (pc := 18) (k := 5) d_MO_change_18 k_st l_st (by decide) nd ?_
  refine g_iload_n (pc := 19) d_MO_change_19 rfl 0 rfl ?_
  refine g_iret (pc := 20) d_MO_change_20 rfl ?_
  exact ⟨rfl, rfl⟩
set_option maxRecDepth 20000 in
theorem cm_MO_setInspectors {E : En} {h : Hp} {m st nw sc : Nat} {c g : Nat → Int32} {B : Bu} {R : List (Nat × (Nat → Int32))} {ni U : Nat} {old kept : Nat} {x : Int32} (hM : MoOk h m st) (nd : (m :: st :: R.map Prod.fst).Nodup) (hG : Gd B nw sc ni U) (hk1 : c 1 = nI old) (hk2 : c 2 = nI kept) (ho8 : old < 8) (hk8 : kept ≤ 8) (hr1 : (0 : Int32) ≤ x) (hr2 : x ≤ 3) : CR E m_MO_setInspectors [.ref m, .int x] (wL h ((m, c) :: (st, enc nw sc B g) :: R)) (some (.int (B.1 5))) (wL h ((m, (kpC (u1 c 17 0) old kept)) :: (st, enc nw sc (sC B (u1 B.1 5 x)) (KC (enc nw sc B g) 0 (1 + (old + kept) % 8))) :: R)) := by
  refine ct_of rfl (by decide +kernel) (Nat.le_of_ble_eq_true rfl) ?_
  show G E m_MO_setInspectors 0 [(0, .ref m), (1, .int x)] [] (wL h ((m, c) :: (st, enc nw sc B g) :: R)) 0 0 _ noX
  obtain ⟨k_m, r_m_0, k_st, l_st⟩ := id hM
  obtain ⟨hw, n6, hs, s8, h0, hni, n3, ⟨sd, hsd, hsx⟩, hop⟩ := id hG.1
  refine g_aload_n (pc := 0) d_MO_setInspectors_0 rfl 0 rfl ?_
  refine g_iconst (pc := 1) (v := 0) d_MO_setInspectors_1 (by decide) ?_
  refine g_lpI0 (pc := 2) (ci := 7) (f := 17) rfl d_MO_setInspectors_2 fl_MO_52 (fun q hq => by cases hq; exact rfl) rfl rfl (by decide) k_m nd ?_
  refine g_aload_n (pc := 5) d_MO_setInspectors_5 rfl 0 rfl ?_
  refine g_iload_n (pc := 6) d_MO_setInspectors_6 rfl 1 rfl ?_
  refine g_iconst (pc := 7) (v := 0) d_MO_setInspectors_7 (by decide) ?_
  refine g_iconst (pc := 8) (v := 3) d_MO_setInspectors_8 (by decide) ?_
  refine g_cS1 (pc := 9) (As := [.int _, .int _, .int _]) d_MO_setInspectors_9 rfl ms_MO_in st_MO_setInspectors_161 rfl rfl (Nat.le_of_ble_eq_true rfl) (cm_MO_in_t hr1 hr2) ?_
  refine g_if_ne (pc := 12) (tgt := 19) d_MO_setInspectors_12 (by decide) (fun c_12 => ?_) (fun c_12 => ?_)
  · skip
    refine g_iconst (pc := 19) (v := 0) d_MO_setInspectors_19 (by decide) ?_
    refine g_iconst (pc := 20) (v := 1) d_MO_setInspectors_20 (by decide) ?_
    refine g_cV1 (pc := 21) (ci := 7) (As := [.int _, .int _]) d_MO_setInspectors_21 rfl mv_MO_throwsIf st_MO_setInspectors_154 rfl rfl (by decide) rfl rfl (Nat.le_of_ble_eq_true rfl) k_m (cm_MO_throwsIf_f k_m nd) ?_
    refine g_if_eq (pc := 24) (tgt := 29) d_MO_setInspectors_24 (by decide) (fun c_24 => ?_) (fun c_24 => ?_)
    · skip
      refine g_aload_n (pc := 29) d_MO_setInspectors_29 rfl 0 rfl ?_
      refine g_iconst (pc := 30) (v := 5) d_MO_setInspectors_30 (by decide) ?_
      refine g_iload_n (pc := 31) d_MO_setInspectors_31 rfl 1 rfl ?_
      refine g_cV1 (pc := 32) (ci := 7) (As := [.int _, .int _]) d_MO_setInspectors_32 rfl mv_MO_change st_MO_setInspectors_287 rfl rfl (by decide) rfl rfl (Nat.le_of_ble_eq_true rfl) k_m (cm_MO_change5 hM nd n6 s8 hk1 hk2 ho8 hk8) ?_
      refine g_iret (pc := 35) d_MO_setInspectors_35 rfl ?_
      first | exact ⟨rfl, rfl⟩ | (rw [u1_u1]; exact ⟨rfl, rfl⟩)
    · exact (c_24 (by decide)).elim
  · exact absurd c_12 (by decide)
set_option maxRecDepth 20000 in
theorem cm_MO_setInspectorsR {E : En} {h : Hp} {m st nw sc : Nat} {c g : Nat → Int32} {B : Bu} {R : List (Nat × (Nat → Int32))} {ni U : Nat} {x : Int32} (hM : MoOk h m st) (nd : (m :: st :: R.map Prod.fst).Nodup) (hG : Gd B nw sc ni U) (hrn : x < 0 ∨ 3 < x) : CR E m_MO_setInspectors [.ref m, .int x] (wL h ((m, c) :: (st, enc nw sc B g) :: R)) (some (.int 0)) (wL h ((m, (u1 c 17 1)) :: (st, enc nw sc B g) :: R)) := by
  refine ct_of rfl (by decide +kernel) (Nat.le_of_ble_eq_true rfl) ?_
  show G E m_MO_setInspectors 0 [(0, .ref m), (1, .int x)] [] (wL h ((m, c) :: (st, enc nw sc B g) :: R)) 0 0 _ noX
  obtain ⟨k_m, r_m_0, k_st, l_st⟩ := id hM
  obtain ⟨hw, n6, hs, s8, h0, hni, n3, ⟨sd, hsd, hsx⟩, hop⟩ := id hG.1
  refine g_aload_n (pc := 0) d_MO_setInspectors_0 rfl 0 rfl ?_
  refine g_iconst (pc := 1) (v := 0) d_MO_setInspectors_1 (by decide) ?_
  refine g_lpI0 (pc := 2) (ci := 7) (f := 17) rfl d_MO_setInspectors_2 fl_MO_52 (fun q hq => by cases hq; exact rfl) rfl rfl (by decide) k_m nd ?_
  refine g_aload_n (pc := 5) d_MO_setInspectors_5 rfl 0 rfl ?_
  refine g_iload_n (pc := 6) d_MO_setInspectors_6 rfl 1 rfl ?_
  refine g_iconst (pc := 7) (v := 0) d_MO_setInspectors_7 (by decide) ?_
  refine g_iconst (pc := 8) (v := 3) d_MO_setInspectors_8 (by decide) ?_
  refine g_cS1 (pc := 9) (As := [.int _, .int _, .int _]) d_MO_setInspectors_9 rfl ms_MO_in st_MO_setInspectors_161 rfl rfl (Nat.le_of_ble_eq_true rfl) (cm_MO_in_f hrn) ?_
  refine g_if_ne (pc := 12) (tgt := 19) d_MO_setInspectors_12 (by decide) (fun c_12 => ?_) (fun c_12 => ?_)
  · exact (c_12 (by decide)).elim
  · skip
    refine g_iconst (pc := 15) (v := 1) d_MO_setInspectors_15 (by decide) ?_
    refine g_goto (pc := 16) (tgt := 20) d_MO_setInspectors_16 (by decide) ?_
    refine g_iconst (pc := 20) (v := 1) d_MO_setInspectors_20 (by decide) ?_
    refine g_cV1 (pc := 21) (ci := 7) (As := [.int _, .int _]) d_MO_setInspectors_21 rfl mv_MO_throwsIf st_MO_setInspectors_154 rfl rfl (by decide) rfl rfl (Nat.le_of_ble_eq_true rfl) k_m (cm_MO_throwsIf_t k_m nd) ?_
    refine g_if_eq (pc := 24) (tgt := 29) d_MO_setInspectors_24 (by decide) (fun c_24 => ?_) (fun c_24 => ?_)
    · exact absurd c_24 (by decide)
    · skip
      refine g_iconst (pc := 27) (v := 0) d_MO_setInspectors_27 (by decide) ?_
      refine g_iret (pc := 28) d_MO_setInspectors_28 rfl ?_
      first | exact ⟨rfl, rfl⟩ | (rw [u1_u1]; exact ⟨rfl, rfl⟩)
set_option maxRecDepth 20000 in
theorem cm_MO_change2 {E : En} {h : Hp} {m st nw sc : Nat} {c g : Nat → Int32} {B : Bu} {R : List (Nat × (Nat → Int32))} {old kept : Nat} {x : Int32} (hM : MoOk h m st) (nd : (m :: st :: R.map Prod.fst).Nodup) (n6 : nw ≤ 6) (s8 : sc ≤ 8) (hk1 : c 1 = nI old) (hk2 : c 2 = nI kept) (ho8 : old < 8) (hk8 : kept ≤ 8) : CR E m_MO_change [.ref m, .int 2, .int x] (wL h ((m, c) :: (st, enc nw sc B g) :: R)) (some (.int (B.1 2))) (wL h ((m, (kpC c old kept)) :: (st, enc nw sc (sC B (u1 B.1 2 x)) (KC (enc nw sc B g) 0 (1 + (old + kept) % 8))) :: R)) := by
  refine ct_of rfl (by decide +kernel) (Nat.le_of_ble_eq_true rfl) ?_
  show G E m_MO_change 0 [(0, .ref m), (1, .int 2), (2, .int x)] [] (wL h ((m, c) :: (st, enc nw sc B g) :: R)) 0 0 _ noX
  obtain ⟨k_m, r_m_0, k_st, l_st⟩ := id hM
  refine g_aload_n (pc := 0) d_MO_change_0 rfl 0 rfl ?_
  refine g_iconst (pc := 1) (v := 0) d_MO_change_1 (by decide) ?_
  refine g_cV0 (pc := 2) (ci := 7) (As := [.int _]) d_MO_change_2 rfl mv_MO_keep st_MO_change_239 rfl rfl (by decide) rfl rfl (Nat.le_of_ble_eq_true rfl) k_m (cm_MO_keep hM nd n6 s8 hk1 hk2 ho8 hk8) ?_
  refine g_aload_n (pc := 5) d_MO_change_5 rfl 0 rfl ?_
  refine g_getR (pc := 6) (ci := 7) (f := 0) (b := st) rfl r_m_0 d_MO_change_6 fl_MO_7 (by decide) k_m ?_
  refine g_iload_n (pc := 9) d_MO_change_9 rfl 1 rfl ?_
  refine g_mI (pc := 10) (k := 2) d_MO_change_10 k_st l_st (by decide) nd ?_
  refine g_istore_n (pc := 11) (lv' := [(3, .int (B.1 2)), (0, .ref m), (1, .int 2), (2, .int x)]) d_MO_change_11 rfl (by decide) rfl ?_
  refine g_aload_n (pc := 12) d_MO_change_12 rfl 1 rfl ?_
  refine g_getR (pc := 13) (ci := 7) (f := 0) (b := st) rfl r_m_0 d_MO_change_13 fl_MO_7 (by decide) k_m ?_
  refine g_iload_n (pc := 16) d_MO_change_16 rfl 2 rfl ?_
  refine g_iload_n (pc := 17) d_MO_change_17 rfl 3 rfl ?_
  refine g_mIS (pc := 18) (k := 2) d_MO_change_18 k_st l_st (by decide) nd ?_
  refine g_iload_n (pc := 19) d_MO_change_19 rfl 0 rfl ?_
  refine g_iret (pc := 20) d_MO_change_20 rfl ?_
  exact ⟨rfl, rfl⟩
set_option maxRecDepth 20000 in
theorem cm_MO_setFee {E : En} {h : Hp} {m st nw sc : Nat} {c g : Nat → Int32} {B : Bu} {R : List (Nat × (Nat → Int32))} {ni U : Nat} {old kept : Nat} {x : Int32} (hM : MoOk h m st) (nd : (m :: st :: R.map Prod.fst).Nodup) (hG : Gd B nw sc ni U) (hk1 : c 1 = nI old) (hk2 : c 2 = nI kept) (ho8 : old < 8) (hk8 : kept ≤ 8) (hr1 : (0 : Int32) ≤ x) (hr2 : x ≤ 99) : CR E m_MO_setFee [.ref m, .int x] (wL h ((m, c) :: (st, enc nw sc B g) :: R)) (some (.int (B.1 2))) (wL h ((m, (kpC (u1 c 17 0) old kept)) :: (st, enc nw sc (sC B (u1 B.1 2 x)) (KC (enc nw sc B g) 0 (1 + (old + kept) % 8))) :: R)) := by
  refine ct_of rfl (by decide +kernel) (Nat.le_of_ble_eq_true rfl) ?_
  show G E m_MO_setFee 0 [(0, .ref m), (1, .int x)] [] (wL h ((m, c) :: (st, enc nw sc B g) :: R)) 0 0 _ noX
  obtain ⟨k_m, r_m_0, k_st, l_st⟩ := id hM
  obtain ⟨hw, n6, hs, s8, h0, hni, n3, ⟨sd, hsd, hsx⟩, hop⟩ := id hG.1
  refine g_aload_n (pc := 0) d_MO_setFee_0 rfl 0 rfl ?_
  refine g_iconst (pc := 1) (v := 0) d_MO_setFee_1 (by decide) ?_
  refine g_lpI0 (pc := 2) (ci := 7) (f := 17) rfl d_MO_setFee_2 fl_MO_52 (fun q hq => by cases hq; exact rfl) rfl rfl (by decide) k_m nd ?_
  refine g_aload_n (pc := 5) d_MO_setFee_5 rfl 0 rfl ?_
  refine g_iload_n (pc := 6) d_MO_setFee_6 rfl 1 rfl ?_
  refine g_iconst (pc := 7) (v := 0) d_MO_setFee_7 (by decide) ?_
  refine g_bipush (pc := 8) (v := 99) d_MO_setFee_8 (by decide) ?_
  refine g_cS1 (pc := 10) (As := [.int _, .int _, .int _]) d_MO_setFee_10 rfl ms_MO_in st_MO_setFee_161 rfl rfl (Nat.le_of_ble_eq_true rfl) (cm_MO_in_t hr1 hr2) ?_
  refine g_if_ne (pc := 13) (tgt := 20) d_MO_setFee_13 (by decide) (fun c_13 => ?_) (fun c_13 => ?_)
  · skip
    refine g_iconst (pc := 20) (v := 0) d_MO_setFee_20 (by decide) ?_
    refine g_iconst (pc := 21) (v := 1) d_MO_setFee_21 (by decide) ?_
    refine g_cV1 (pc := 22) (ci := 7) (As := [.int _, .int _]) d_MO_setFee_22 rfl mv_MO_throwsIf st_MO_setFee_154 rfl rfl (by decide) rfl rfl (Nat.le_of_ble_eq_true rfl) k_m (cm_MO_throwsIf_f k_m nd) ?_
    refine g_if_eq (pc := 25) (tgt := 30) d_MO_setFee_25 (by decide) (fun c_25 => ?_) (fun c_25 => ?_)
    · skip
      refine g_aload_n (pc := 30) d_MO_setFee_30 rfl 0 rfl ?_
      refine g_iconst (pc := 31) (v := 2) d_MO_setFee_31 (by decide) ?_
      refine g_iload_n (pc := 32) d_MO_setFee_32 rfl 1 rfl ?_
      refine g_cV1 (pc := 33) (ci := 7) (As := [.int _, .int _]) d_MO_setFee_33 rfl mv_MO_change st_MO_setFee_287 rfl rfl (by decide) rfl rfl (Nat.le_of_ble_eq_true rfl) k_m (cm_MO_change2 hM nd n6 s8 hk1 hk2 ho8 hk8) ?_
      refine g_iret (pc := 36) d_MO_setFee_36 rfl ?_
      first | exact ⟨rfl, rfl⟩ | (rw [u1_u1]; exact ⟨rfl, rfl⟩)
    · exact (c_25 (by decide)).elim
  · exact absurd c_13 (by decide)
set_option maxRecDepth 20000 in
theorem cm_MO_setFeeR {E : En} {h : Hp} {m st nw sc : Nat} {c g : Nat → Int32} {B : Bu} {R : List (Nat × (Nat → Int32))} {ni U : Nat} {x : Int32} (hM : MoOk h m st) (nd : (m :: st :: R.map Prod.fst).Nodup) (hG : Gd B nw sc ni U) (hrn : x < 0 ∨ 99 < x) : CR E m_MO_setFee [.ref m, .int x] (wL h ((m, c) :: (st, enc nw sc B g) :: R)) (some (.int 0)) (wL h ((m, (u1 c 17 1)) :: (st, enc nw sc B g) :: R)) := by
  refine ct_of rfl (by decide +kernel) (Nat.le_of_ble_eq_true rfl) ?_
  show G E m_MO_setFee 0 [(0, .ref m), (1, .int x)] [] (wL h ((m, c) :: (st, enc nw sc B g) :: R)) 0 0 _ noX
  obtain ⟨k_m, r_m_0, k_st, l_st⟩ := id hM
  obtain ⟨hw, n6, hs, s8, h0, hni, n3, ⟨sd, hsd, hsx⟩, hop⟩ := id hG.1
  refine g_aload_n (pc := 0) d_MO_setFee_0 rfl 0 rfl ?_
  refine g_iconst (pc := 1) (v := 0) d_MO_setFee_1 (by decide) ?_
  refine g_lpI0 (pc := 2) (ci := 7) (f := 17) rfl d_MO_setFee_2 fl_MO_52 (fun q hq => by cases hq; exact rfl) rfl rfl (by decide) k_m nd ?_
  refine g_aload_n (pc := 5) d_MO_setFee_5 rfl 0 rfl ?_
  refine g_iload_n (pc := 6) d_MO_setFee_6 rfl 1 rfl ?_
  refine g_iconst (pc := 7) (v := 0) d_MO_setFee_7 (by decide) ?_
  refine g_bipush (pc := 8) (v := 99) d_MO_setFee_8 (by decide) ?_
  refine g_cS1 (pc := 10) (As := [.int _, .int _, .int _]) d_MO_setFee_10 rfl ms_MO_in st_MO_setFee_161 rfl rfl (Nat.le_of_ble_eq_true rfl) (cm_MO_in_f hrn) ?_
  refine g_if_ne (pc := 13) (tgt := 20) d_MO_setFee_13 (by decide) (fun c_13 => ?_) (fun c_13 => ?_)
  · exact (c_13 (by decide)).elim
  · skip
    refine g_iconst (pc := 16) (v := 1) d_MO_setFee_16 (by decide) ?_
    refine g_goto (pc := 17) (tgt := 21) d_MO_setFee_17 (by decide) ?_
    refine g_iconst (pc := 21) (v := 1) d_MO_setFee_21 (by decide) ?_
    refine g_cV1 (pc := 22) (ci := 7) (As := [.int _, .int _]) d_MO_setFee_22 rfl mv_MO_throwsIf st_MO_setFee_154 rfl rfl (by decide) rfl rfl (Nat.le_of_ble_eq_true rfl) k_m (cm_MO_throwsIf_t k_m nd) ?_
    refine g_if_eq (pc := 25) (tgt := 30) d_MO_setFee_25 (by decide) (fun c_25 => ?_) (fun c_25 => ?_)
    · exact absurd c_25 (by decide)
    · skip
      refine g_iconst (pc := 28) (v := 0) d_MO_setFee_28 (by decide) ?_
      refine g_iret (pc := 29) d_MO_setFee_29 rfl ?_
      first | exact ⟨rfl, rfl⟩ | (rw [u1_u1]; exact ⟨rfl, rfl⟩)
