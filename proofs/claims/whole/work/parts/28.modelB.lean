/-! THE MODEL: days, visits, choices -/
theorem Gd.op {B : Bu} {nw sc ni U i : Nat} (h : Gd B nw sc ni U) (hi : i < sc) : B.2.2 i 12 = 0 ∨ B.2.2 i 12 = 1 := (h.2.2 i hi).1
theorem Gd.c0 {B : Bu} {nw sc ni U i : Nat} (h : Gd B nw sc ni U) (hi : i < sc) : 0 ≤ (B.2.2 i 8).toInt ∧ (B.2.2 i 8).toInt ≤ U := (h.2.2 i hi).2.2.2
def P_any (B : Bu) : Nat → Bool
  | 0 => false
  | n + 1 => P_any B n || M_can B.1 (B.2.2 n)
theorem P_any_t {B : Bu} : ∀ {n i : Nat}, i < n → M_can B.1 (B.2.2 i) = true → P_any B n = true
  | n + 1, i, hi, h => by
    rw [P_any]
    by_cases e : i = n
    · subst e; rw [h, Bool.or_true]
    · rw [P_any_t (n := n) (by omega) h, Bool.true_or]
theorem P_any_f {B : Bu} : ∀ {n : Nat}, (∀ i, i < n → M_can B.1 (B.2.2 i) = false) → P_any B n = false
  | 0, _ => rfl
  | n + 1, h => by rw [P_any, P_any_f (n := n) (fun i hi => h i (by omega)), h n (by omega)]; rfl
theorem P_any_no {B : Bu} {n i : Nat} (h : P_any B n = false) (hi : i < n) : M_can B.1 (B.2.2 i) = false := by
  cases e : M_can B.1 (B.2.2 i) with
  | false => rfl
  | true => rw [P_any_t hi e] at h; cases h
theorem P_any_ex {B : Bu} : ∀ {n : Nat}, P_any B n = true → ∃ i, i < n ∧ M_can B.1 (B.2.2 i) = true
  | n + 1, h => by
    rw [P_any] at h
    cases e : M_can B.1 (B.2.2 n) with
    | true => exact ⟨n, by omega, e⟩
    | false =>
      rw [e, Bool.or_false] at h
      obtain ⟨i, h1, h2⟩ := P_any_ex h
      exact ⟨i, by omega, h2⟩
theorem P_next_none {B : Bu} {sc : Nat} (h : ∀ j, j < sc → M_can B.1 (B.2.2 j) = false) : ∀ d i, i < sc → P_next B sc d i = none
  | 0, _, _ => rfl
  | d + 1, i, hi => by
    rw [P_next, h i hi, if_neg (by decide)]
    exact P_next_none h d _ (by split <;> omega)
theorem P_next_ex {B : Bu} {sc j0 : Nat} (hj : j0 < sc) (h : M_can B.1 (B.2.2 j0) = true) : ∀ d i, i < sc → (if i ≤ j0 then j0 - i else j0 + sc - i) < d → ∃ r, P_next B sc d i = some r
  | 0, _, _, hd => absurd hd (Nat.not_lt_zero _)
  | d + 1, i, hi, hd => by
    rw [P_next]
    by_cases e : M_can B.1 (B.2.2 i) = true
    · exact ⟨i, by rw [if_pos e]⟩
    · rw [if_neg e]
      have hne : i ≠ j0 := fun z => e (z ▸ h)
      refine P_next_ex hj h d _ (by split <;> omega) ?_
      by_cases h1 : i ≤ j0
      · rw [if_pos h1] at hd
        rw [if_pos (show i + 1 < sc by omega), if_pos (show i + 1 ≤ j0 by omega)]
        omega
      · rw [if_neg h1] at hd
        by_cases h2 : i + 1 < sc
        · rw [if_pos h2, if_neg (by omega)]; omega
        · rw [if_neg h2, if_pos (by omega)]; omega
theorem P_next_sc {B : Bu} {sc j0 i : Nat} (hj : j0 < sc) (h : M_can B.1 (B.2.2 j0) = true) (hi : i < sc) : ∃ r, P_next B sc sc i = some r := P_next_ex hj h sc i hi (by split <;> omega)
theorem P_most_any {B : Bu} : ∀ {n : Nat}, P_any B n = false → (P_most B n).1 = none
  | 0, _ => rfl
  | n + 1, h => by
    have h1 := P_any_no h (Nat.lt_succ_self n)
    rw [P_most, if_neg (fun z => by rw [h1] at z; cases z.1)]
    exact P_most_any (by rw [P_any] at h; cases e : P_any B n with | false => rfl | true => rw [e, Bool.true_or] at h; cases h)
theorem P_most_n {B : Bu} : ∀ {n : Nat}, (P_most B n).1 = none → (P_most B n).2 = 0
  | 0, _ => rfl
  | n + 1, h => by
    rw [P_most] at h ⊢
    split at h
    · cases h
    · next z => rw [if_neg z]; exact P_most_n h
theorem P_most_s {B : Bu} : ∀ {n j : Nat}, (P_most B n).1 = some j → (P_most B n).2 = B.2.2 j 8
  | 0, _, h => by cases h
  | n + 1, j, h => by
    rw [P_most] at h ⊢
    split at h
    · next z => rw [if_pos z]; cases h; rfl
    · next z => rw [if_neg z]; exact P_most_s h
theorem nx_mod {j sc : Nat} (hj : j < sc) : (j + 1) % sc = if j + 1 < sc then j + 1 else 0 := by
  split
  · next h => exact Nat.mod_eq_of_lt h
  · next h => rw [show j + 1 = sc by omega, Nat.mod_self]
theorem M_can_seed (c s : Nat → Int32) (v : Int32) : M_can (u1 c 6 v) s = M_can c s := rfl
theorem i_pos0 {x : Int32} (h0 : 0 ≤ x.toInt) (h : ¬ x = 0) : 0 < x := by
  rw [i_lt, i_0]
  have : x.toInt ≠ 0 := fun z => h (Int32.toInt_inj.mp z)
  omega
theorem i_nlt0 {x : Int32} (h0 : 0 ≤ x.toInt) : ¬ x < 0 := fun z => by have := (i_lt _ _).mp z; rw [i_0] at this; omega
theorem op_drift {B : Bu} {sc : Nat} (hop : ∀ i, i < sc → B.2.2 i 12 = 0 ∨ B.2.2 i 12 = 1) : ∀ i, i < sc → (P_drift sc B).2.2 i 12 = 0 ∨ (P_drift sc B).2.2 i 12 = 1 := fun i hi => by
  have e : (P_drift sc B).2.2 i = M_drift (B.2.2 i) := if_pos hi
  rw [e, M_drift_at _ (by decide)]
  exact hop i hi
theorem v_ins (B : Bu) (i nw : Nat) : (P_ins B i nw).1 11 = B.1 11 + 1 := by
  show M_visC B.1 _ _ 11 = _
  unfold M_visC
  split <;> simp [u1_at]
theorem v_choose (B : Bu) (sc : Nat) : (P_choose B sc).2.1 11 = B.1 11 := by
  unfold P_choose
  split
  · rfl
  · rfl
theorem v_sent1 (nw sc : Nat) (q : Nat × Bu) : (P_sent1 nw sc q).2.1 11 + nI q.1 = q.2.1 11 + nI (P_sent1 nw sc q).1 := by
  cases e : (P_choose q.2 sc).1 with
  | none => rw [P_sent1_n e]; show (P_choose q.2 sc).2.1 11 + nI q.1 = _; rw [v_choose]
  | some i =>
    rw [P_sent1_s e]
    show (P_ins (P_choose q.2 sc).2 i nw).1 11 + nI q.1 = q.2.1 11 + nI (q.1 + 1)
    rw [v_ins, v_choose, ← nI_1, Int32.add_assoc, Int32.add_comm 1]
theorem i_tri {A y1 b1 r y0 b : Int32} (h1 : A + y1 = b1 + r) (h2 : b1 + y0 = b + y1) : A + y0 = b + r := by
  grind
theorem v_sent (nw sc : Nat) : ∀ (n : Nat) (q : Nat × Bu), (P_sent nw sc n q).2.1 11 + nI q.1 = q.2.1 11 + nI (P_sent nw sc n q).1
  | 0, _ => rfl
  | n + 1, q => by rw [P_sent_S]; exact i_tri (v_sent nw sc n (P_sent1 nw sc q)) (v_sent1 nw sc q)
theorem v_day (nw sc ni : Nat) (q : Nat × Bu) : (P_day nw sc ni q).2.1 11 + nI q.1 = q.2.1 11 + nI (P_day nw sc ni q).1 := v_sent nw sc ni (q.1, P_trade sc (P_begin sc q.2))
theorem v_pass (nw sc ni : Nat) : ∀ (n : Nat) (q : Nat × Bu), (P_pass nw sc ni n q).2.1 11 + nI q.1 = q.2.1 11 + nI (P_pass nw sc ni n q).1
  | 0, _ => rfl
  | n + 1, q => i_tri (v_pass nw sc ni n (P_day nw sc ni q)) (v_day nw sc ni q)
theorem v_pass0 (nw sc ni n : Nat) (B : Bu) : (P_pass nw sc ni n (0, B)).2.1 11 - B.1 11 = nI (P_pass nw sc ni n (0, B)).1 := by
  have h := v_pass nw sc ni n (0, B)
  have h2 : (P_pass nw sc ni n (0, B)).2.1 11 = B.1 11 + nI (P_pass nw sc ni n (0, B)).1 := by rw [← h]; exact (Int32.add_zero _).symm
  rw [h2, Int32.add_comm, Int32.add_sub_cancel]
theorem d_MO_canVisit_0 : decode (mC m_MO_canVisit) 0 = .ok (.aload_n 0, 1) := by decide +kernel
theorem d_MO_canVisit_1 : decode (mC m_MO_canVisit) 1 = .ok (.iload_n 1, 1) := by decide +kernel
theorem d_MO_canVisit_2 : decode (mC m_MO_canVisit) 2 = .ok (.invokevirtual 115, 3) := by decide +kernel
theorem d_MO_canVisit_5 : decode (mC m_MO_canVisit) 5 = .ok (.ifCond .eq 24, 3) := by decide +kernel
theorem d_MO_canVisit_8 : decode (mC m_MO_canVisit) 8 = .ok (.aload_n 0, 1) := by decide +kernel
theorem d_MO_canVisit_9 : decode (mC m_MO_canVisit) 9 = .ok (.iload_n 1, 1) := by decide +kernel
theorem d_MO_canVisit_10 : decode (mC m_MO_canVisit) 10 = .ok (.bipush 10, 2) := by decide +kernel
theorem d_MO_canVisit_12 : decode (mC m_MO_canVisit) 12 = .ok (.invokevirtual 69, 3) := by decide +kernel
theorem d_MO_canVisit_15 : decode (mC m_MO_canVisit) 15 = .ok (.aload_n 0, 1) := by decide +kernel
theorem d_MO_canVisit_16 : decode (mC m_MO_canVisit) 16 = .ok (.getfield 7, 3) := by decide +kernel
theorem d_MO_canVisit_19 : decode (mC m_MO_canVisit) 19 = .ok (.bipush 9, 2) := by decide +kernel
theorem d_MO_canVisit_21 : decode (mC m_MO_canVisit) 21 = .ok (.iaload, 1) := by decide +kernel
theorem d_MO_canVisit_22 : decode (mC m_MO_canVisit) 22 = .ok (.if_icmp .eq 7, 3) := by decide +kernel
theorem d_MO_canVisit_25 : decode (mC m_MO_canVisit) 25 = .ok (.iconst 1, 1) := by decide +kernel
theorem d_MO_canVisit_26 : decode (mC m_MO_canVisit) 26 = .ok (.goto 4, 3) := by decide +kernel
theorem d_MO_canVisit_29 : decode (mC m_MO_canVisit) 29 = .ok (.iconst 0, 1) := by decide +kernel
theorem d_MO_canVisit_30 : decode (mC m_MO_canVisit) 30 = .ok (.ireturn, 1) := by decide +kernel
theorem d_MO_mostBlamed_0 : decode (mC m_MO_mostBlamed) 0 = .ok (.iconst (-1), 1) := by decide +kernel
theorem d_MO_mostBlamed_1 : decode (mC m_MO_mostBlamed) 1 = .ok (.istore_n 1, 1) := by decide +kernel
theorem d_MO_mostBlamed_2 : decode (mC m_MO_mostBlamed) 2 = .ok (.iconst 0, 1) := by decide +kernel
theorem d_MO_mostBlamed_3 : decode (mC m_MO_mostBlamed) 3 = .ok (.istore_n 2, 1) := by decide +kernel
theorem d_MO_mostBlamed_4 : decode (mC m_MO_mostBlamed) 4 = .ok (.iload_n 2, 1) := by decide +kernel
theorem d_MO_mostBlamed_5 : decode (mC m_MO_mostBlamed) 5 = .ok (.aload_n 0, 1) := by decide +kernel
theorem d_MO_mostBlamed_6 : decode (mC m_MO_mostBlamed) 6 = .ok (.getfield 7, 3) := by decide +kernel
theorem d_MO_mostBlamed_9 : decode (mC m_MO_mostBlamed) 9 = .ok (.bipush 8, 2) := by decide +kernel
theorem d_MO_mostBlamed_11 : decode (mC m_MO_mostBlamed) 11 = .ok (.iaload, 1) := by decide +kernel
theorem d_MO_mostBlamed_12 : decode (mC m_MO_mostBlamed) 12 = .ok (.if_icmp .ge 53, 3) := by decide +kernel
theorem d_MO_mostBlamed_15 : decode (mC m_MO_mostBlamed) 15 = .ok (.aload_n 0, 1) := by decide +kernel
theorem d_MO_mostBlamed_16 : decode (mC m_MO_mostBlamed) 16 = .ok (.iload_n 2, 1) := by decide +kernel
theorem d_MO_mostBlamed_17 : decode (mC m_MO_mostBlamed) 17 = .ok (.invokevirtual 118, 3) := by decide +kernel
theorem d_MO_mostBlamed_20 : decode (mC m_MO_mostBlamed) 20 = .ok (.ifCond .eq 39, 3) := by decide +kernel
theorem d_MO_mostBlamed_23 : decode (mC m_MO_mostBlamed) 23 = .ok (.aload_n 0, 1) := by decide +kernel
theorem d_MO_mostBlamed_24 : decode (mC m_MO_mostBlamed) 24 = .ok (.iload_n 2, 1) := by decide +kernel
theorem d_MO_mostBlamed_25 : decode (mC m_MO_mostBlamed) 25 = .ok (.bipush 8, 2) := by decide +kernel
theorem d_MO_mostBlamed_27 : decode (mC m_MO_mostBlamed) 27 = .ok (.invokevirtual 69, 3) := by decide +kernel
theorem d_MO_mostBlamed_30 : decode (mC m_MO_mostBlamed) 30 = .ok (.ifCond .ne 6, 3) := by decide +kernel
theorem d_MO_mostBlamed_33 : decode (mC m_MO_mostBlamed) 33 = .ok (.goto 26, 3) := by decide +kernel
theorem d_MO_mostBlamed_36 : decode (mC m_MO_mostBlamed) 36 = .ok (.iload_n 1, 1) := by decide +kernel
theorem d_MO_mostBlamed_37 : decode (mC m_MO_mostBlamed) 37 = .ok (.ifCond .lt 20, 3) := by decide +kernel
theorem d_MO_mostBlamed_40 : decode (mC m_MO_mostBlamed) 40 = .ok (.aload_n 0, 1) := by decide +kernel
theorem d_MO_mostBlamed_41 : decode (mC m_MO_mostBlamed) 41 = .ok (.iload_n 2, 1) := by decide +kernel
theorem d_MO_mostBlamed_42 : decode (mC m_MO_mostBlamed) 42 = .ok (.bipush 8, 2) := by decide +kernel
theorem d_MO_mostBlamed_44 : decode (mC m_MO_mostBlamed) 44 = .ok (.invokevirtual 69, 3) := by decide +kernel
theorem d_MO_mostBlamed_47 : decode (mC m_MO_mostBlamed) 47 = .ok (.aload_n 0, 1) := by decide +kernel
theorem d_MO_mostBlamed_48 : decode (mC m_MO_mostBlamed) 48 = .ok (.iload_n 1, 1) := by decide +kernel
theorem d_MO_mostBlamed_49 : decode (mC m_MO_mostBlamed) 49 = .ok (.bipush 8, 2) := by decide +kernel
theorem d_MO_mostBlamed_51 : decode (mC m_MO_mostBlamed) 51 = .ok (.invokevirtual 69, 3) := by decide +kernel
theorem d_MO_mostBlamed_54 : decode (mC m_MO_mostBlamed) 54 = .ok (.if_icmp .le 5, 3) := by decide +kernel
theorem d_MO_mostBlamed_57 : decode (mC m_MO_mostBlamed) 57 = .ok (.iload_n 2, 1) := by decide +kernel
theorem d_MO_mostBlamed_58 : decode (mC m_MO_mostBlamed) 58 = .ok (.istore_n 1, 1) := by decide +kernel
theorem d_MO_mostBlamed_59 : decode (mC m_MO_mostBlamed) 59 = .ok (.iinc 2 1, 3) := by decide +kernel
theorem d_MO_mostBlamed_62 : decode (mC m_MO_mostBlamed) 62 = .ok (.goto (-58), 3) := by decide +kernel
theorem d_MO_mostBlamed_65 : decode (mC m_MO_mostBlamed) 65 = .ok (.iload_n 1, 1) := by decide +kernel
theorem d_MO_mostBlamed_66 : decode (mC m_MO_mostBlamed) 66 = .ok (.ireturn, 1) := by decide +kernel
theorem d_MO_canVisitAny_0 : decode (mC m_MO_canVisitAny) 0 = .ok (.iconst 0, 1) := by decide +kernel
theorem d_MO_canVisitAny_1 : decode (mC m_MO_canVisitAny) 1 = .ok (.istore_n 1, 1) := by decide +kernel
theorem d_MO_canVisitAny_2 : decode (mC m_MO_canVisitAny) 2 = .ok (.iload_n 1, 1) := by decide +kernel
theorem d_MO_canVisitAny_3 : decode (mC m_MO_canVisitAny) 3 = .ok (.aload_n 0, 1) := by decide +kernel
theorem d_MO_canVisitAny_4 : decode (mC m_MO_canVisitAny) 4 = .ok (.getfield 7, 3) := by decide +kernel
theorem d_MO_canVisitAny_7 : decode (mC m_MO_canVisitAny) 7 = .ok (.bipush 8, 2) := by decide +kernel
theorem d_MO_canVisitAny_9 : decode (mC m_MO_canVisitAny) 9 = .ok (.iaload, 1) := by decide +kernel
theorem d_MO_canVisitAny_10 : decode (mC m_MO_canVisitAny) 10 = .ok (.if_icmp .ge 19, 3) := by decide +kernel
theorem d_MO_canVisitAny_13 : decode (mC m_MO_canVisitAny) 13 = .ok (.aload_n 0, 1) := by decide +kernel
theorem d_MO_canVisitAny_14 : decode (mC m_MO_canVisitAny) 14 = .ok (.iload_n 1, 1) := by decide +kernel
theorem d_MO_canVisitAny_15 : decode (mC m_MO_canVisitAny) 15 = .ok (.invokevirtual 118, 3) := by decide +kernel
theorem d_MO_canVisitAny_18 : decode (mC m_MO_canVisitAny) 18 = .ok (.ifCond .eq 5, 3) := by decide +kernel
theorem d_MO_canVisitAny_21 : decode (mC m_MO_canVisitAny) 21 = .ok (.iconst 1, 1) := by decide +kernel
theorem d_MO_canVisitAny_22 : decode (mC m_MO_canVisitAny) 22 = .ok (.ireturn, 1) := by decide +kernel
theorem d_MO_canVisitAny_23 : decode (mC m_MO_canVisitAny) 23 = .ok (.iinc 1 1, 3) := by decide +kernel
theorem d_MO_canVisitAny_26 : decode (mC m_MO_canVisitAny) 26 = .ok (.goto (-24), 3) := by decide +kernel
theorem d_MO_canVisitAny_29 : decode (mC m_MO_canVisitAny) 29 = .ok (.iconst 0, 1) := by decide +kernel
theorem d_MO_canVisitAny_30 : decode (mC m_MO_canVisitAny) 30 = .ok (.ireturn, 1) := by decide +kernel
theorem d_MO_choose_0 : decode (mC m_MO_choose) 0 = .ok (.aload_n 0, 1) := by decide +kernel
theorem d_MO_choose_1 : decode (mC m_MO_choose) 1 = .ok (.invokevirtual 121, 3) := by decide +kernel
theorem d_MO_choose_4 : decode (mC m_MO_choose) 4 = .ok (.ifCond .ne 5, 3) := by decide +kernel
theorem d_MO_choose_7 : decode (mC m_MO_choose) 7 = .ok (.iconst (-1), 1) := by decide +kernel
theorem d_MO_choose_8 : decode (mC m_MO_choose) 8 = .ok (.ireturn, 1) := by decide +kernel
theorem d_MO_choose_9 : decode (mC m_MO_choose) 9 = .ok (.aload_n 0, 1) := by decide +kernel
theorem d_MO_choose_10 : decode (mC m_MO_choose) 10 = .ok (.invokevirtual 125, 3) := by decide +kernel
theorem d_MO_choose_13 : decode (mC m_MO_choose) 13 = .ok (.istore_n 1, 1) := by decide +kernel
theorem d_MO_choose_14 : decode (mC m_MO_choose) 14 = .ok (.iload_n 1, 1) := by decide +kernel
theorem d_MO_choose_15 : decode (mC m_MO_choose) 15 = .ok (.ifCond .lt 5, 3) := by decide +kernel
theorem d_MO_choose_18 : decode (mC m_MO_choose) 18 = .ok (.iload_n 1, 1) := by decide +kernel
theorem d_MO_choose_19 : decode (mC m_MO_choose) 19 = .ok (.ireturn, 1) := by decide +kernel
theorem d_MO_choose_20 : decode (mC m_MO_choose) 20 = .ok (.aload_n 0, 1) := by decide +kernel
theorem d_MO_choose_21 : decode (mC m_MO_choose) 21 = .ok (.getfield 7, 3) := by decide +kernel
theorem d_MO_choose_24 : decode (mC m_MO_choose) 24 = .ok (.bipush 6, 2) := by decide +kernel
theorem d_MO_choose_26 : decode (mC m_MO_choose) 26 = .ok (.bipush 75, 2) := by decide +kernel
theorem d_MO_choose_28 : decode (mC m_MO_choose) 28 = .ok (.aload_n 0, 1) := by decide +kernel
theorem d_MO_choose_29 : decode (mC m_MO_choose) 29 = .ok (.getfield 7, 3) := by decide +kernel
theorem d_MO_choose_32 : decode (mC m_MO_choose) 32 = .ok (.bipush 6, 2) := by decide +kernel
theorem d_MO_choose_34 : decode (mC m_MO_choose) 34 = .ok (.iaload, 1) := by decide +kernel
theorem d_MO_choose_35 : decode (mC m_MO_choose) 35 = .ok (.imul, 1) := by decide +kernel
theorem d_MO_choose_36 : decode (mC m_MO_choose) 36 = .ok (.bipush 74, 2) := by decide +kernel
theorem d_MO_choose_38 : decode (mC m_MO_choose) 38 = .ok (.iadd, 1) := by decide +kernel
theorem d_MO_choose_39 : decode (mC m_MO_choose) 39 = .ok (.ldc 129, 2) := by decide +kernel
theorem d_MO_choose_41 : decode (mC m_MO_choose) 41 = .ok (.irem, 1) := by decide +kernel
theorem d_MO_choose_42 : decode (mC m_MO_choose) 42 = .ok (.iastore, 1) := by decide +kernel
theorem d_MO_choose_43 : decode (mC m_MO_choose) 43 = .ok (.aload_n 0, 1) := by decide +kernel
theorem d_MO_choose_44 : decode (mC m_MO_choose) 44 = .ok (.getfield 7, 3) := by decide +kernel
theorem d_MO_choose_47 : decode (mC m_MO_choose) 47 = .ok (.bipush 6, 2) := by decide +kernel
theorem d_MO_choose_49 : decode (mC m_MO_choose) 49 = .ok (.iaload, 1) := by decide +kernel
theorem d_MO_choose_50 : decode (mC m_MO_choose) 50 = .ok (.aload_n 0, 1) := by decide +kernel
theorem d_MO_choose_51 : decode (mC m_MO_choose) 51 = .ok (.getfield 7, 3) := by decide +kernel
theorem d_MO_choose_54 : decode (mC m_MO_choose) 54 = .ok (.bipush 8, 2) := by decide +kernel
theorem d_MO_choose_56 : decode (mC m_MO_choose) 56 = .ok (.iaload, 1) := by decide +kernel
theorem d_MO_choose_57 : decode (mC m_MO_choose) 57 = .ok (.irem, 1) := by decide +kernel
theorem d_MO_choose_58 : decode (mC m_MO_choose) 58 = .ok (.istore_n 2, 1) := by decide +kernel
theorem d_MO_choose_59 : decode (mC m_MO_choose) 59 = .ok (.aload_n 0, 1) := by decide +kernel
theorem d_MO_choose_60 : decode (mC m_MO_choose) 60 = .ok (.iload_n 2, 1) := by decide +kernel
theorem d_MO_choose_61 : decode (mC m_MO_choose) 61 = .ok (.invokevirtual 118, 3) := by decide +kernel
theorem d_MO_choose_64 : decode (mC m_MO_choose) 64 = .ok (.ifCond .ne 18, 3) := by decide +kernel
theorem d_MO_choose_67 : decode (mC m_MO_choose) 67 = .ok (.iload_n 2, 1) := by decide +kernel
theorem d_MO_choose_68 : decode (mC m_MO_choose) 68 = .ok (.iconst 1, 1) := by decide +kernel
theorem d_MO_choose_69 : decode (mC m_MO_choose) 69 = .ok (.iadd, 1) := by decide +kernel
theorem d_MO_choose_70 : decode (mC m_MO_choose) 70 = .ok (.aload_n 0, 1) := by decide +kernel
theorem d_MO_choose_71 : decode (mC m_MO_choose) 71 = .ok (.getfield 7, 3) := by decide +kernel
theorem d_MO_choose_74 : decode (mC m_MO_choose) 74 = .ok (.bipush 8, 2) := by decide +kernel
theorem d_MO_choose_76 : decode (mC m_MO_choose) 76 = .ok (.iaload, 1) := by decide +kernel
theorem d_MO_choose_77 : decode (mC m_MO_choose) 77 = .ok (.irem, 1) := by decide +kernel
theorem d_MO_choose_78 : decode (mC m_MO_choose) 78 = .ok (.istore_n 2, 1) := by decide +kernel
theorem d_MO_choose_79 : decode (mC m_MO_choose) 79 = .ok (.goto (-20), 3) := by decide +kernel
theorem d_MO_choose_82 : decode (mC m_MO_choose) 82 = .ok (.iload_n 2, 1) := by decide +kernel
theorem d_MO_choose_83 : decode (mC m_MO_choose) 83 = .ok (.ireturn, 1) := by decide +kernel
theorem d_MO_beginDay_0 : decode (mC m_MO_beginDay) 0 = .ok (.aload_n 0, 1) := by decide +kernel
theorem d_MO_beginDay_1 : decode (mC m_MO_beginDay) 1 = .ok (.getfield 7, 3) := by decide +kernel
theorem d_MO_beginDay_4 : decode (mC m_MO_beginDay) 4 = .ok (.bipush 9, 2) := by decide +kernel
theorem d_MO_beginDay_6 : decode (mC m_MO_beginDay) 6 = .ok (.dup2, 1) := by decide +kernel
theorem d_MO_beginDay_7 : decode (mC m_MO_beginDay) 7 = .ok (.iaload, 1) := by decide +kernel
theorem d_MO_beginDay_8 : decode (mC m_MO_beginDay) 8 = .ok (.iconst 1, 1) := by decide +kernel
theorem d_MO_beginDay_9 : decode (mC m_MO_beginDay) 9 = .ok (.iadd, 1) := by decide +kernel
theorem d_MO_beginDay_10 : decode (mC m_MO_beginDay) 10 = .ok (.iastore, 1) := by decide +kernel
theorem d_MO_beginDay_11 : decode (mC m_MO_beginDay) 11 = .ok (.iconst 0, 1) := by decide +kernel
theorem d_MO_beginDay_12 : decode (mC m_MO_beginDay) 12 = .ok (.istore_n 1, 1) := by decide +kernel
theorem d_MO_beginDay_13 : decode (mC m_MO_beginDay) 13 = .ok (.iload_n 1, 1) := by decide +kernel
theorem d_MO_beginDay_14 : decode (mC m_MO_beginDay) 14 = .ok (.aload_n 0, 1) := by decide +kernel
theorem d_MO_beginDay_15 : decode (mC m_MO_beginDay) 15 = .ok (.getfield 7, 3) := by decide +kernel
theorem d_MO_beginDay_18 : decode (mC m_MO_beginDay) 18 = .ok (.bipush 8, 2) := by decide +kernel
theorem d_MO_beginDay_20 : decode (mC m_MO_beginDay) 20 = .ok (.iaload, 1) := by decide +kernel
theorem d_MO_beginDay_21 : decode (mC m_MO_beginDay) 21 = .ok (.if_icmp .ge 14, 3) := by decide +kernel
theorem d_MO_beginDay_24 : decode (mC m_MO_beginDay) 24 = .ok (.aload_n 0, 1) := by decide +kernel
theorem d_MO_beginDay_25 : decode (mC m_MO_beginDay) 25 = .ok (.iload_n 1, 1) := by decide +kernel
theorem d_MO_beginDay_26 : decode (mC m_MO_beginDay) 26 = .ok (.invokevirtual 130, 3) := by decide +kernel
theorem d_MO_beginDay_29 : decode (mC m_MO_beginDay) 29 = .ok (.iinc 1 1, 3) := by decide +kernel
theorem d_MO_beginDay_32 : decode (mC m_MO_beginDay) 32 = .ok (.goto (-19), 3) := by decide +kernel
theorem d_MO_beginDay_35 : decode (mC m_MO_beginDay) 35 = .ok (.iconst 0, 1) := by decide +kernel
theorem d_MO_beginDay_36 : decode (mC m_MO_beginDay) 36 = .ok (.istore_n 1, 1) := by decide +kernel
theorem d_MO_beginDay_37 : decode (mC m_MO_beginDay) 37 = .ok (.iload_n 1, 1) := by decide +kernel
theorem d_MO_beginDay_38 : decode (mC m_MO_beginDay) 38 = .ok (.aload_n 0, 1) := by decide +kernel
theorem d_MO_beginDay_39 : decode (mC m_MO_beginDay) 39 = .ok (.getfield 7, 3) := by decide +kernel
theorem d_MO_beginDay_42 : decode (mC m_MO_beginDay) 42 = .ok (.bipush 8, 2) := by decide +kernel
theorem d_MO_beginDay_44 : decode (mC m_MO_beginDay) 44 = .ok (.iaload, 1) := by decide +kernel
theorem d_MO_beginDay_45 : decode (mC m_MO_beginDay) 45 = .ok (.if_icmp .ge 22, 3) := by decide +kernel
theorem d_MO_beginDay_48 : decode (mC m_MO_beginDay) 48 = .ok (.aload_n 0, 1) := by decide +kernel
theorem d_MO_beginDay_49 : decode (mC m_MO_beginDay) 49 = .ok (.iload_n 1, 1) := by decide +kernel
theorem d_MO_beginDay_50 : decode (mC m_MO_beginDay) 50 = .ok (.invokevirtual 115, 3) := by decide +kernel
theorem d_MO_beginDay_53 : decode (mC m_MO_beginDay) 53 = .ok (.ifCond .eq 8, 3) := by decide +kernel
theorem d_MO_beginDay_56 : decode (mC m_MO_beginDay) 56 = .ok (.aload_n 0, 1) := by decide +kernel
theorem d_MO_beginDay_57 : decode (mC m_MO_beginDay) 57 = .ok (.iload_n 1, 1) := by decide +kernel
theorem d_MO_beginDay_58 : decode (mC m_MO_beginDay) 58 = .ok (.invokevirtual 133, 3) := by decide +kernel
theorem d_MO_beginDay_61 : decode (mC m_MO_beginDay) 61 = .ok (.iinc 1 1, 3) := by decide +kernel
theorem d_MO_beginDay_64 : decode (mC m_MO_beginDay) 64 = .ok (.goto (-27), 3) := by decide +kernel
theorem d_MO_beginDay_67 : decode (mC m_MO_beginDay) 67 = .ok (.return_, 1) := by decide +kernel
theorem d_MO_passOne_0 : decode (mC m_MO_passOne) 0 = .ok (.aload_n 0, 1) := by decide +kernel
theorem d_MO_passOne_1 : decode (mC m_MO_passOne) 1 = .ok (.invokevirtual 136, 3) := by decide +kernel
theorem d_MO_passOne_4 : decode (mC m_MO_passOne) 4 = .ok (.iconst 0, 1) := by decide +kernel
theorem d_MO_passOne_5 : decode (mC m_MO_passOne) 5 = .ok (.istore_n 1, 1) := by decide +kernel
theorem d_MO_passOne_6 : decode (mC m_MO_passOne) 6 = .ok (.iload_n 1, 1) := by decide +kernel
theorem d_MO_passOne_7 : decode (mC m_MO_passOne) 7 = .ok (.aload_n 0, 1) := by decide +kernel
theorem d_MO_passOne_8 : decode (mC m_MO_passOne) 8 = .ok (.getfield 7, 3) := by decide +kernel
theorem d_MO_passOne_11 : decode (mC m_MO_passOne) 11 = .ok (.iconst 5, 1) := by decide +kernel
theorem d_MO_passOne_12 : decode (mC m_MO_passOne) 12 = .ok (.iaload, 1) := by decide +kernel
theorem d_MO_passOne_13 : decode (mC m_MO_passOne) 13 = .ok (.if_icmp .ge 24, 3) := by decide +kernel
theorem d_MO_passOne_16 : decode (mC m_MO_passOne) 16 = .ok (.aload_n 0, 1) := by decide +kernel
theorem d_MO_passOne_17 : decode (mC m_MO_passOne) 17 = .ok (.invokevirtual 139, 3) := by decide +kernel
theorem d_MO_passOne_20 : decode (mC m_MO_passOne) 20 = .ok (.istore_n 2, 1) := by decide +kernel
theorem d_MO_passOne_21 : decode (mC m_MO_passOne) 21 = .ok (.iload_n 2, 1) := by decide +kernel
theorem d_MO_passOne_22 : decode (mC m_MO_passOne) 22 = .ok (.ifCond .lt 9, 3) := by decide +kernel
theorem d_MO_passOne_25 : decode (mC m_MO_passOne) 25 = .ok (.aload_n 0, 1) := by decide +kernel
theorem d_MO_passOne_26 : decode (mC m_MO_passOne) 26 = .ok (.iload_n 2, 1) := by decide +kernel
theorem d_MO_passOne_27 : decode (mC m_MO_passOne) 27 = .ok (.invokevirtual 142, 3) := by decide +kernel
theorem d_MO_passOne_30 : decode (mC m_MO_passOne) 30 = .ok (.pop, 1) := by decide +kernel
theorem d_MO_passOne_31 : decode (mC m_MO_passOne) 31 = .ok (.iinc 1 1, 3) := by decide +kernel
theorem d_MO_passOne_34 : decode (mC m_MO_passOne) 34 = .ok (.goto (-28), 3) := by decide +kernel
theorem d_MO_passOne_37 : decode (mC m_MO_passOne) 37 = .ok (.return_, 1) := by decide +kernel
theorem d_MO_passAll_0 : decode (mC m_MO_passAll) 0 = .ok (.aload_n 0, 1) := by decide +kernel
theorem d_MO_passAll_1 : decode (mC m_MO_passAll) 1 = .ok (.getfield 7, 3) := by decide +kernel
theorem d_MO_passAll_4 : decode (mC m_MO_passAll) 4 = .ok (.bipush 11, 2) := by decide +kernel
theorem d_MO_passAll_6 : decode (mC m_MO_passAll) 6 = .ok (.iaload, 1) := by decide +kernel
theorem d_MO_passAll_7 : decode (mC m_MO_passAll) 7 = .ok (.istore_n 2, 1) := by decide +kernel
theorem d_MO_passAll_8 : decode (mC m_MO_passAll) 8 = .ok (.iconst 0, 1) := by decide +kernel
theorem d_MO_passAll_9 : decode (mC m_MO_passAll) 9 = .ok (.istore_n 3, 1) := by decide +kernel
theorem d_MO_passAll_10 : decode (mC m_MO_passAll) 10 = .ok (.iload_n 3, 1) := by decide +kernel
theorem d_MO_passAll_11 : decode (mC m_MO_passAll) 11 = .ok (.iload_n 1, 1) := by decide +kernel
theorem d_MO_passAll_12 : decode (mC m_MO_passAll) 12 = .ok (.if_icmp .ge 13, 3) := by decide +kernel
theorem d_MO_passAll_15 : decode (mC m_MO_passAll) 15 = .ok (.aload_n 0, 1) := by decide +kernel
theorem d_MO_passAll_16 : decode (mC m_MO_passAll) 16 = .ok (.invokevirtual 145, 3) := by decide +kernel
theorem d_MO_passAll_19 : decode (mC m_MO_passAll) 19 = .ok (.iinc 3 1, 3) := by decide +kernel
theorem d_MO_passAll_22 : decode (mC m_MO_passAll) 22 = .ok (.goto (-12), 3) := by decide +kernel
theorem d_MO_passAll_25 : decode (mC m_MO_passAll) 25 = .ok (.aload_n 0, 1) := by decide +kernel
theorem d_MO_passAll_26 : decode (mC m_MO_passAll) 26 = .ok (.getfield 7, 3) := by decide +kernel
theorem d_MO_passAll_29 : decode (mC m_MO_passAll) 29 = .ok (.bipush 11, 2) := by decide +kernel
theorem d_MO_passAll_31 : decode (mC m_MO_passAll) 31 = .ok (.iaload, 1) := by decide +kernel
theorem d_MO_passAll_32 : decode (mC m_MO_passAll) 32 = .ok (.iload_n 2, 1) := by decide +kernel
theorem d_MO_passAll_33 : decode (mC m_MO_passAll) 33 = .ok (.isub, 1) := by decide +kernel
theorem d_MO_passAll_34 : decode (mC m_MO_passAll) 34 = .ok (.ireturn, 1) := by decide +kernel
theorem d_MO_countOpen_0 : decode (mC m_MO_countOpen) 0 = .ok (.iconst 0, 1) := by decide +kernel
theorem d_MO_countOpen_1 : decode (mC m_MO_countOpen) 1 = .ok (.istore_n 1, 1) := by decide +kernel
theorem d_MO_countOpen_2 : decode (mC m_MO_countOpen) 2 = .ok (.iconst 0, 1) := by decide +kernel
theorem d_MO_countOpen_3 : decode (mC m_MO_countOpen) 3 = .ok (.istore_n 2, 1) := by decide +kernel
theorem d_MO_countOpen_4 : decode (mC m_MO_countOpen) 4 = .ok (.iload_n 2, 1) := by decide +kernel
theorem d_MO_countOpen_5 : decode (mC m_MO_countOpen) 5 = .ok (.aload_n 0, 1) := by decide +kernel
theorem d_MO_countOpen_6 : decode (mC m_MO_countOpen) 6 = .ok (.getfield 7, 3) := by decide +kernel
theorem d_MO_countOpen_9 : decode (mC m_MO_countOpen) 9 = .ok (.bipush 8, 2) := by decide +kernel
theorem d_MO_countOpen_11 : decode (mC m_MO_countOpen) 11 = .ok (.iaload, 1) := by decide +kernel
theorem d_MO_countOpen_12 : decode (mC m_MO_countOpen) 12 = .ok (.if_icmp .ge 20, 3) := by decide +kernel
theorem d_MO_countOpen_15 : decode (mC m_MO_countOpen) 15 = .ok (.aload_n 0, 1) := by decide +kernel
theorem d_MO_countOpen_16 : decode (mC m_MO_countOpen) 16 = .ok (.iload_n 2, 1) := by decide +kernel
theorem d_MO_countOpen_17 : decode (mC m_MO_countOpen) 17 = .ok (.invokevirtual 115, 3) := by decide +kernel
theorem d_MO_countOpen_20 : decode (mC m_MO_countOpen) 20 = .ok (.ifCond .eq 6, 3) := by decide +kernel
theorem d_MO_countOpen_23 : decode (mC m_MO_countOpen) 23 = .ok (.iinc 1 1, 3) := by decide +kernel
theorem d_MO_countOpen_26 : decode (mC m_MO_countOpen) 26 = .ok (.iinc 2 1, 3) := by decide +kernel
theorem d_MO_countOpen_29 : decode (mC m_MO_countOpen) 29 = .ok (.goto (-25), 3) := by decide +kernel
theorem d_MO_countOpen_32 : decode (mC m_MO_countOpen) 32 = .ok (.iload_n 1, 1) := by decide +kernel
theorem d_MO_countOpen_33 : decode (mC m_MO_countOpen) 33 = .ok (.ireturn, 1) := by decide +kernel
theorem d_MO_canRepair_0 : decode (mC m_MO_canRepair) 0 = .ok (.aload_n 0, 1) := by decide +kernel
theorem d_MO_canRepair_1 : decode (mC m_MO_canRepair) 1 = .ok (.iload_n 1, 1) := by decide +kernel
theorem d_MO_canRepair_2 : decode (mC m_MO_canRepair) 2 = .ok (.invokevirtual 115, 3) := by decide +kernel
theorem d_MO_canRepair_5 : decode (mC m_MO_canRepair) 5 = .ok (.ifCond .eq 18, 3) := by decide +kernel
theorem d_MO_canRepair_8 : decode (mC m_MO_canRepair) 8 = .ok (.aload_n 0, 1) := by decide +kernel
theorem d_MO_canRepair_9 : decode (mC m_MO_canRepair) 9 = .ok (.iload_n 1, 1) := by decide +kernel
theorem d_MO_canRepair_10 : decode (mC m_MO_canRepair) 10 = .ok (.iconst 0, 1) := by decide +kernel
theorem d_MO_canRepair_11 : decode (mC m_MO_canRepair) 11 = .ok (.invokevirtual 69, 3) := by decide +kernel
theorem d_MO_canRepair_14 : decode (mC m_MO_canRepair) 14 = .ok (.bipush 10, 2) := by decide +kernel
theorem d_MO_canRepair_16 : decode (mC m_MO_canRepair) 16 = .ok (.if_icmp .lt 7, 3) := by decide +kernel
theorem d_MO_canRepair_19 : decode (mC m_MO_canRepair) 19 = .ok (.iconst 1, 1) := by decide +kernel
theorem d_MO_canRepair_20 : decode (mC m_MO_canRepair) 20 = .ok (.goto 4, 3) := by decide +kernel
theorem d_MO_canRepair_23 : decode (mC m_MO_canRepair) 23 = .ok (.iconst 0, 1) := by decide +kernel
theorem d_MO_canRepair_24 : decode (mC m_MO_canRepair) 24 = .ok (.ireturn, 1) := by decide +kernel
theorem d_MO_repairNow_0 : decode (mC m_MO_repairNow) 0 = .ok (.aload_n 0, 1) := by decide +kernel
theorem d_MO_repairNow_1 : decode (mC m_MO_repairNow) 1 = .ok (.iload_n 1, 1) := by decide +kernel
theorem d_MO_repairNow_2 : decode (mC m_MO_repairNow) 2 = .ok (.iconst 1, 1) := by decide +kernel
theorem d_MO_repairNow_3 : decode (mC m_MO_repairNow) 3 = .ok (.iconst 0, 1) := by decide +kernel
theorem d_MO_repairNow_4 : decode (mC m_MO_repairNow) 4 = .ok (.invokevirtual 65, 3) := by decide +kernel
theorem d_MO_repairNow_7 : decode (mC m_MO_repairNow) 7 = .ok (.aload_n 0, 1) := by decide +kernel
theorem d_MO_repairNow_8 : decode (mC m_MO_repairNow) 8 = .ok (.iload_n 1, 1) := by decide +kernel
theorem d_MO_repairNow_9 : decode (mC m_MO_repairNow) 9 = .ok (.iconst 2, 1) := by decide +kernel
theorem d_MO_repairNow_10 : decode (mC m_MO_repairNow) 10 = .ok (.iconst 0, 1) := by decide +kernel
theorem d_MO_repairNow_11 : decode (mC m_MO_repairNow) 11 = .ok (.invokevirtual 65, 3) := by decide +kernel
theorem d_MO_repairNow_14 : decode (mC m_MO_repairNow) 14 = .ok (.aload_n 0, 1) := by decide +kernel
theorem d_MO_repairNow_15 : decode (mC m_MO_repairNow) 15 = .ok (.iload_n 1, 1) := by decide +kernel
theorem d_MO_repairNow_16 : decode (mC m_MO_repairNow) 16 = .ok (.iconst 0, 1) := by decide +kernel
theorem d_MO_repairNow_17 : decode (mC m_MO_repairNow) 17 = .ok (.bipush (-10), 2) := by decide +kernel
theorem d_MO_repairNow_19 : decode (mC m_MO_repairNow) 19 = .ok (.invokevirtual 96, 3) := by decide +kernel
theorem d_MO_repairNow_22 : decode (mC m_MO_repairNow) 22 = .ok (.aload_n 0, 1) := by decide +kernel
theorem d_MO_repairNow_23 : decode (mC m_MO_repairNow) 23 = .ok (.getfield 7, 3) := by decide +kernel
theorem d_MO_repairNow_26 : decode (mC m_MO_repairNow) 26 = .ok (.bipush 10, 2) := by decide +kernel
theorem d_MO_repairNow_28 : decode (mC m_MO_repairNow) 28 = .ok (.dup2, 1) := by decide +kernel
theorem d_MO_repairNow_29 : decode (mC m_MO_repairNow) 29 = .ok (.iaload, 1) := by decide +kernel
theorem d_MO_repairNow_30 : decode (mC m_MO_repairNow) 30 = .ok (.bipush 10, 2) := by decide +kernel
theorem d_MO_repairNow_32 : decode (mC m_MO_repairNow) 32 = .ok (.iadd, 1) := by decide +kernel
theorem d_MO_repairNow_33 : decode (mC m_MO_repairNow) 33 = .ok (.iastore, 1) := by decide +kernel
theorem d_MO_repairNow_34 : decode (mC m_MO_repairNow) 34 = .ok (.aload_n 0, 1) := by decide +kernel
theorem d_MO_repairNow_35 : decode (mC m_MO_repairNow) 35 = .ok (.iload_n 1, 1) := by decide +kernel
theorem d_MO_repairNow_36 : decode (mC m_MO_repairNow) 36 = .ok (.iconst 0, 1) := by decide +kernel
theorem d_MO_repairNow_37 : decode (mC m_MO_repairNow) 37 = .ok (.invokevirtual 69, 3) := by decide +kernel
theorem d_MO_repairNow_40 : decode (mC m_MO_repairNow) 40 = .ok (.ireturn, 1) := by decide +kernel
theorem d_MO_complainNow_0 : decode (mC m_MO_complainNow) 0 = .ok (.aload_n 0, 1) := by decide +kernel
theorem d_MO_complainNow_1 : decode (mC m_MO_complainNow) 1 = .ok (.iload_n 1, 1) := by decide +kernel
theorem d_MO_complainNow_2 : decode (mC m_MO_complainNow) 2 = .ok (.bipush 8, 2) := by decide +kernel
theorem d_MO_complainNow_4 : decode (mC m_MO_complainNow) 4 = .ok (.iconst 1, 1) := by decide +kernel
theorem d_MO_complainNow_5 : decode (mC m_MO_complainNow) 5 = .ok (.invokevirtual 96, 3) := by decide +kernel
theorem d_MO_complainNow_8 : decode (mC m_MO_complainNow) 8 = .ok (.aload_n 0, 1) := by decide +kernel
theorem d_MO_complainNow_9 : decode (mC m_MO_complainNow) 9 = .ok (.iload_n 1, 1) := by decide +kernel
theorem d_MO_complainNow_10 : decode (mC m_MO_complainNow) 10 = .ok (.bipush 8, 2) := by decide +kernel
theorem d_MO_complainNow_12 : decode (mC m_MO_complainNow) 12 = .ok (.invokevirtual 69, 3) := by decide +kernel
theorem d_MO_complainNow_15 : decode (mC m_MO_complainNow) 15 = .ok (.ireturn, 1) := by decide +kernel
theorem d_MO_reopenNow_0 : decode (mC m_MO_reopenNow) 0 = .ok (.aload_n 0, 1) := by decide +kernel
theorem d_MO_reopenNow_1 : decode (mC m_MO_reopenNow) 1 = .ok (.iload_n 1, 1) := by decide +kernel
theorem d_MO_reopenNow_2 : decode (mC m_MO_reopenNow) 2 = .ok (.bipush 12, 2) := by decide +kernel
theorem d_MO_reopenNow_4 : decode (mC m_MO_reopenNow) 4 = .ok (.iconst 1, 1) := by decide +kernel
theorem d_MO_reopenNow_5 : decode (mC m_MO_reopenNow) 5 = .ok (.invokevirtual 65, 3) := by decide +kernel
theorem d_MO_reopenNow_8 : decode (mC m_MO_reopenNow) 8 = .ok (.aload_n 0, 1) := by decide +kernel
theorem d_MO_reopenNow_9 : decode (mC m_MO_reopenNow) 9 = .ok (.iload_n 1, 1) := by decide +kernel
theorem d_MO_reopenNow_10 : decode (mC m_MO_reopenNow) 10 = .ok (.bipush 9, 2) := by decide +kernel
theorem d_MO_reopenNow_12 : decode (mC m_MO_reopenNow) 12 = .ok (.iconst 0, 1) := by decide +kernel
theorem d_MO_reopenNow_13 : decode (mC m_MO_reopenNow) 13 = .ok (.invokevirtual 65, 3) := by decide +kernel
theorem d_MO_reopenNow_16 : decode (mC m_MO_reopenNow) 16 = .ok (.aload_n 0, 1) := by decide +kernel
theorem d_MO_reopenNow_17 : decode (mC m_MO_reopenNow) 17 = .ok (.invokevirtual 148, 3) := by decide +kernel
theorem d_MO_reopenNow_20 : decode (mC m_MO_reopenNow) 20 = .ok (.ireturn, 1) := by decide +kernel
theorem d_MO_rankOf_0 : decode (mC m_MO_rankOf) 0 = .ok (.iconst 0, 1) := by decide +kernel
theorem d_MO_rankOf_1 : decode (mC m_MO_rankOf) 1 = .ok (.istore_n 2, 1) := by decide +kernel
theorem d_MO_rankOf_2 : decode (mC m_MO_rankOf) 2 = .ok (.iconst 0, 1) := by decide +kernel
theorem d_MO_rankOf_3 : decode (mC m_MO_rankOf) 3 = .ok (.istore_n 3, 1) := by decide +kernel
theorem d_MO_rankOf_4 : decode (mC m_MO_rankOf) 4 = .ok (.iload_n 3, 1) := by decide +kernel
theorem d_MO_rankOf_5 : decode (mC m_MO_rankOf) 5 = .ok (.aload_n 0, 1) := by decide +kernel
theorem d_MO_rankOf_6 : decode (mC m_MO_rankOf) 6 = .ok (.getfield 7, 3) := by decide +kernel
theorem d_MO_rankOf_9 : decode (mC m_MO_rankOf) 9 = .ok (.bipush 8, 2) := by decide +kernel
theorem d_MO_rankOf_11 : decode (mC m_MO_rankOf) 11 = .ok (.iaload, 1) := by decide +kernel
theorem d_MO_rankOf_12 : decode (mC m_MO_rankOf) 12 = .ok (.if_icmp .ge 44, 3) := by decide +kernel
theorem d_MO_rankOf_15 : decode (mC m_MO_rankOf) 15 = .ok (.aload_n 0, 1) := by decide +kernel
theorem d_MO_rankOf_16 : decode (mC m_MO_rankOf) 16 = .ok (.iload_n 3, 1) := by decide +kernel
theorem d_MO_rankOf_17 : decode (mC m_MO_rankOf) 17 = .ok (.bipush 8, 2) := by decide +kernel
theorem d_MO_rankOf_19 : decode (mC m_MO_rankOf) 19 = .ok (.invokevirtual 69, 3) := by decide +kernel
theorem d_MO_rankOf_22 : decode (mC m_MO_rankOf) 22 = .ok (.aload_n 0, 1) := by decide +kernel
theorem d_MO_rankOf_23 : decode (mC m_MO_rankOf) 23 = .ok (.iload_n 1, 1) := by decide +kernel
theorem d_MO_rankOf_24 : decode (mC m_MO_rankOf) 24 = .ok (.bipush 8, 2) := by decide +kernel
theorem d_MO_rankOf_26 : decode (mC m_MO_rankOf) 26 = .ok (.invokevirtual 69, 3) := by decide +kernel
theorem d_MO_rankOf_29 : decode (mC m_MO_rankOf) 29 = .ok (.isub, 1) := by decide +kernel
theorem d_MO_rankOf_30 : decode (mC m_MO_rankOf) 30 = .ok (.istore 4, 2) := by decide +kernel
theorem d_MO_rankOf_32 : decode (mC m_MO_rankOf) 32 = .ok (.iload 4, 2) := by decide +kernel
theorem d_MO_rankOf_34 : decode (mC m_MO_rankOf) 34 = .ok (.ifCond .gt 13, 3) := by decide +kernel
theorem d_MO_rankOf_37 : decode (mC m_MO_rankOf) 37 = .ok (.iload 4, 2) := by decide +kernel
theorem d_MO_rankOf_39 : decode (mC m_MO_rankOf) 39 = .ok (.ifCond .ne 11, 3) := by decide +kernel
theorem d_MO_rankOf_42 : decode (mC m_MO_rankOf) 42 = .ok (.iload_n 3, 1) := by decide +kernel
theorem d_MO_rankOf_43 : decode (mC m_MO_rankOf) 43 = .ok (.iload_n 1, 1) := by decide +kernel
theorem d_MO_rankOf_44 : decode (mC m_MO_rankOf) 44 = .ok (.if_icmp .ge 6, 3) := by decide +kernel
theorem d_MO_rankOf_47 : decode (mC m_MO_rankOf) 47 = .ok (.iinc 2 1, 3) := by decide +kernel
theorem d_MO_rankOf_50 : decode (mC m_MO_rankOf) 50 = .ok (.iinc 3 1, 3) := by decide +kernel
theorem d_MO_rankOf_53 : decode (mC m_MO_rankOf) 53 = .ok (.goto (-49), 3) := by decide +kernel
theorem d_MO_rankOf_56 : decode (mC m_MO_rankOf) 56 = .ok (.iload_n 2, 1) := by decide +kernel
theorem d_MO_rankOf_57 : decode (mC m_MO_rankOf) 57 = .ok (.ireturn, 1) := by decide +kernel
set_option maxRecDepth 20000 in
theorem cm_MO_canVisit {E : En} {h : Hp} {m st nw sc : Nat} {c g : Nat → Int32} {B : Bu} {R : List (Nat × (Nat → Int32))} {ni U : Nat} {i : Nat} (hM : MoOk h m st) (nd : (m :: st :: R.map Prod.fst).Nodup) (hG : Gd B nw sc ni U) (hi : i < sc) : CR E m_MO_canVisit [.ref m, .int (nI i)] (wL h ((m, c) :: (st, enc nw sc B g) :: R)) (some (.int (bI (M_can B.1 (B.2.2 i))))) (wL h ((m, c) :: (st, enc nw sc B g) :: R)) := by
  refine ct_of rfl (by decide +kernel) (Nat.le_of_ble_eq_true rfl) ?_
  show G E m_MO_canVisit 0 [(0, .ref m), (1, .int (nI i))] [] (wL h ((m, c) :: (st, enc nw sc B g) :: R)) 0 0 _ noX
  obtain ⟨k_m, r_m_0, k_st, l_st⟩ := id hM
  obtain ⟨hw, n6, hs, s8, h0, hni, n3, ⟨sd, hsd, hsx⟩, hop⟩ := id hG.1
  refine g_aload_n (pc := 0) d_MO_canVisit_0 rfl 0 rfl ?_
  refine g_iload_n (pc := 1) d_MO_canVisit_1 rfl 1 rfl ?_
  refine g_cV1 (pc := 2) (ci := 7) (As := [.int _]) d_MO_canVisit_2 rfl mv_MO_isOpenShop st_MO_canVisit_115 rfl rfl (by decide) rfl rfl (Nat.le_of_ble_eq_true rfl) k_m (cm_MO_isOpenShop hM nd n6 s8 (by first | assumption | omega | decide) (hG.op (by first | assumption | omega | decide))) ?_
  refine g_if_eq (pc := 5) (tgt := 29) d_MO_canVisit_5 (by decide) (fun c_5 => ?_) (fun c_5 => ?_)
  · skip
    refine g_iconst (pc := 29) (v := 0) d_MO_canVisit_29 (by decide) ?_
    refine g_zret (pc := 30) d_MO_canVisit_30 rfl (by first | rfl | exact nar_bI _) ?_
    refine ⟨?_, rfl⟩
    unfold M_can
    first | (have z := bI_0.mp c_5; rw [z]; rfl) | (have z := bI_n0 c_5; rw [z]; first | (rw [decide_eq_false (fun q => q c_22)]; rfl) | (rw [decide_eq_true c_22]; rfl))
  · skip
    refine g_aload_n (pc := 8) d_MO_canVisit_8 rfl 0 rfl ?_
    refine g_iload_n (pc := 9) d_MO_canVisit_9 rfl 1 rfl ?_
    refine g_bipush (pc := 10) (v := 10) d_MO_canVisit_10 (by decide) ?_
    refine g_cV1 (pc := 12) (ci := 7) (As := [.int _, .int _]) d_MO_canVisit_12 rfl mv_MO_of st_MO_canVisit_69 rfl rfl (by decide) rfl rfl (Nat.le_of_ble_eq_true rfl) k_m (cm_MO_of (k := 10) hM nd n6 s8 (by first | assumption | omega | decide) (by decide)) ?_
    refine g_aload_n (pc := 15) d_MO_canVisit_15 rfl 0 rfl ?_
    refine g_getR (pc := 16) (ci := 7) (f := 0) (b := st) rfl r_m_0 d_MO_canVisit_16 fl_MO_7 (by decide) k_m ?_
    refine g_bipush (pc := 19) (v := 9) d_MO_canVisit_19 (by decide) ?_
    refine g_mI (pc := 21) (k := 9) d_MO_canVisit_21 k_st l_st (by decide) nd ?_
    refine g_icmp_eq (pc := 22) (tgt := 29) d_MO_canVisit_22 (by decide) (fun c_22 => ?_) (fun c_22 => ?_)
    · skip
      refine g_iconst (pc := 29) (v := 0) d_MO_canVisit_29 (by decide) ?_
      refine g_zret (pc := 30) d_MO_canVisit_30 rfl (by first | rfl | exact nar_bI _) ?_
      refine ⟨?_, rfl⟩
      unfold M_can
      first | (have z := bI_0.mp c_5; rw [z]; rfl) | (have z := bI_n0 c_5; rw [z]; first | (rw [decide_eq_false (fun q => q c_22)]; rfl) | (rw [decide_eq_true c_22]; rfl))
    · skip
      refine g_iconst (pc := 25) (v := 1) d_MO_canVisit_25 (by decide) ?_
      refine g_goto (pc := 26) (tgt := 30) d_MO_canVisit_26 (by decide) ?_
      refine g_zret (pc := 30) d_MO_canVisit_30 rfl (by first | rfl | exact nar_bI _) ?_
      refine ⟨?_, rfl⟩
      unfold M_can
      first | (have z := bI_0.mp c_5; rw [z]; rfl) | (have z := bI_n0 c_5; rw [z]; first | (rw [decide_eq_false (fun q => q c_22)]; rfl) | (rw [decide_eq_true c_22]; rfl))
theorem lp_MO_mostBlamed {E : En} {h : Hp} {m st nw sc : Nat} {c g : Nat → Int32} {B : Bu} {R : List (Nat × (Nat → Int32))} {ni U : Nat} (hM : MoOk h m st) (nd : (m :: st :: R.map Prod.fst).Nodup) (hG : Gd B nw sc ni U) : ∀ (d i : Nat), i ≤ sc → sc - i < d → G E m_MO_mostBlamed 4 [(2, .int (nI i)), (1, .int (oI (P_most B i).1)), (0, .ref m)] [] (wL h ((m, c) :: (st, enc nw sc B g) :: R)) 0 0 (fun v1 h1 => v1 = some (.int (oI (P_most B sc).1)) ∧ h1 = wL h ((m, c) :: (st, enc nw sc B g) :: R)) noX := by
  obtain ⟨k_m, r_m_0, k_st, l_st⟩ := id hM
  intro d
  induction d with
  | zero => intros; omega
  | succ d ih =>
    intro i hi hd
    obtain ⟨hw, n6, hs, s8, h0, hni, n3, ⟨sd, hsd, hsx⟩, hop⟩ := id hG.1
    cases eb : (P_most B i).1 with
    | none =>
      have m2 := P_most_n eb
      show G E m_MO_mostBlamed 4 [(2, .int (nI i)), (1, .int (-1)), (0, .ref m)] [] _ 0 0 _ noX
      refine g_iload_n (pc := 4) d_MO_mostBlamed_4 rfl 0 rfl ?_
      refine g_aload_n (pc := 5) d_MO_mostBlamed_5 rfl 2 rfl ?_
      refine g_getR (pc := 6) (ci := 7) (f := 0) (b := st) rfl r_m_0 d_MO_mostBlamed_6 fl_MO_7 (by decide) k_m ?_
      refine g_bipush (pc := 9) (v := 8) d_MO_mostBlamed_9 (by decide) ?_
      refine g_mI (pc := 11) (k := 8) d_MO_mostBlamed_11 k_st l_st (by decide) nd ?_
      refine g_icmp_ge (pc := 12) (tgt := 65) d_MO_mostBlamed_12 (by decide) (fun c_12 => ?_) (fun c_12 => ?_)
      · skip
        have e9 : i = sc := by rw [hs] at c_12; have := (nI_leI (by omega) (by omega)).mp c_12; omega
        refine g_iload_n (pc := 65) d_MO_mostBlamed_65 rfl 1 rfl ?_
        refine g_iret (pc := 66) d_MO_mostBlamed_66 rfl ?_
        rw [← e9, eb]
        exact ⟨rfl, rfl⟩
      · skip
        have e9 : i < sc := by rw [hs] at c_12; exact Nat.lt_of_not_le (fun z => c_12 ((nI_leI (by omega) (by omega)).mpr z))
        refine g_aload_n (pc := 15) d_MO_mostBlamed_15 rfl 2 rfl ?_
        refine g_iload_n (pc := 16) d_MO_mostBlamed_16 rfl 0 rfl ?_
        refine g_cV1 (pc := 17) (ci := 7) (As := [.int _]) d_MO_mostBlamed_17 rfl mv_MO_canVisit st_MO_mostBlamed_118 rfl rfl (by decide) rfl rfl (Nat.le_of_ble_eq_true rfl) k_m (cm_MO_canVisit hM nd hG (by first | assumption | omega | decide)) ?_
        refine g_if_eq (pc := 20) (tgt := 59) d_MO_mostBlamed_20 (by decide) (fun c_20 => ?_) (fun c_20 => ?_)
        · skip
          obtain ⟨x_1, hx_1⟩ : ∃ y : Int32, y = (nI i) + 1 := ⟨_, rfl⟩
          refine g_iinc (pc := 59) (w := 0) (v := x_1) (lv' := [(2, .int x_1), (1, .int (-1)), (0, .ref m)]) d_MO_mostBlamed_59 rfl (by rw [hx_1]; rfl) (by decide) rfl ?_
          refine g_goto (pc := 62) (tgt := 4) d_MO_mostBlamed_62 (by decide) ?_
          have e8 : x_1 = nI (i + 1) := by rw [hx_1]; exact nI_1 _
          clear hx_1
          subst e8
          have e7 : (-1) = oI (P_most B (i + 1)).1 := by
            rw [P_most, if_neg ?_, eb]
            · rfl
            · intro q
              rw [m2] at q
              first | (rw [bI_0.mp c_20] at q; cases q.1; done) | (rw [c_30] at q; exact absurd q.2 (by decide)) | (rw [c_30] at q; exact absurd q.2 (i_nlt0 (hG.c0 hj).1)) | exact absurd q.2 (Int32.not_lt.mpr c_54)
          rw [e7]
          refine g_perm [0, 1, 2] rfl ?_
          exact ih (i + 1) (by omega) (by omega)
        · skip
          refine g_aload_n (pc := 23) d_MO_mostBlamed_23 rfl 2 rfl ?_
          refine g_iload_n (pc := 24) d_MO_mostBlamed_24 rfl 0 rfl ?_
          refine g_bipush (pc := 25) (v := 8) d_MO_mostBlamed_25 (by decide) ?_
          refine g_cV1 (pc := 27) (ci := 7) (As := [.int _, .int _]) d_MO_mostBlamed_27 rfl mv_MO_of st_MO_mostBlamed_69 rfl rfl (by decide) rfl rfl (Nat.le_of_ble_eq_true rfl) k_m (cm_MO_of (k := 8) hM nd n6 s8 (by first | assumption | omega | decide) (by decide)) ?_
          refine g_if_ne (pc := 30) (tgt := 36) d_MO_mostBlamed_30 (by decide) (fun c_30 => ?_) (fun c_30 => ?_)
          · skip
            refine g_iload_n (pc := 36) d_MO_mostBlamed_36 rfl 1 rfl ?_
            refine g_if_lt (pc := 37) (tgt := 57) d_MO_mostBlamed_37 (by decide) (fun c_37 => ?_) (fun c_37 => ?_)
            · skip
              refine g_iload_n (pc := 57) d_MO_mostBlamed_57 rfl 0 rfl ?_
              refine g_istore_n (pc := 58) (lv' := [(1, .int (nI i)), (2, .int (nI i)), (0, .ref m)]) d_MO_mostBlamed_58 rfl (by decide) rfl ?_
              obtain ⟨x_2, hx_2⟩ : ∃ y : Int32, y = (nI i) + 1 := ⟨_, rfl⟩
              refine g_iinc (pc := 59) (w := 1) (v := x_2) (lv' := [(2, .int x_2), (1, .int (nI i)), (0, .ref m)]) d_MO_mostBlamed_59 rfl (by rw [hx_2]; rfl) (by decide) rfl ?_
              refine g_goto (pc := 62) (tgt := 4) d_MO_mostBlamed_62 (by decide) ?_
              have e8 : x_2 = nI (i + 1) := by rw [hx_2]; exact nI_1 _
              clear hx_2
              subst e8
              have e7 : nI i = oI (P_most B (i + 1)).1 := by
                rw [P_most, if_pos ?_]
                · rfl
                · refine ⟨bI_n0 c_20, ?_⟩
                  rw [m2]
                  first | exact i_pos0 (hG.c0 e9).1 c_30 | exact Int32.not_le.mp c_54
              refine g_perm [0, 1, 2] rfl ?_
              show G E _ _ [(2, .int (nI (i + 1))), (1, .int (nI i)), (0, .ref m)] _ _ _ _ _ _
              rw [e7]
              exact ih (i + 1) (by omega) (by omega)
            · exact absurd (show (-1 : Int32) < 0 by decide) c_37
          · skip
            refine g_goto (pc := 33) (tgt := 59) d_MO_mostBlamed_33 (by decide) ?_
            obtain ⟨x_3, hx_3⟩ : ∃ y : Int32, y = (nI i) + 1 := ⟨_, rfl⟩
            refine g_iinc (pc := 59) (w := 0) (v := x_3) (lv' := [(2, .int x_3), (1, .int (-1)), (0, .ref m)]) d_MO_mostBlamed_59 rfl (by rw [hx_3]; rfl) (by decide) rfl ?_
            refine g_goto (pc := 62) (tgt := 4) d_MO_mostBlamed_62 (by decide) ?_
            have e8 : x_3 = nI (i + 1) := by rw [hx_3]; exact nI_1 _
            clear hx_3
            subst e8
            have e7 : (-1) = oI (P_most B (i + 1)).1 := by
              rw [P_most, if_neg ?_, eb]
              · rfl
              · intro q
                rw [m2] at q
                first | (rw [bI_0.mp c_20] at q; cases q.1; done) | (rw [c_30] at q; exact absurd q.2 (by decide)) | (rw [c_30] at q; exact absurd q.2 (i_nlt0 (hG.c0 hj).1)) | exact absurd q.2 (Int32.not_lt.mpr c_54)
            rw [e7]
            refine g_perm [0, 1, 2] rfl ?_
            exact ih (i + 1) (by omega) (by omega)
    | some j =>
      have m2 := P_most_s eb
      have hj : j < sc := Nat.lt_of_lt_of_le (P_most_lt B i j eb) hi
      show G E m_MO_mostBlamed 4 [(2, .int (nI i)), (1, .int (nI j)), (0, .ref m)] [] _ 0 0 _ noX
      refine g_iload_n (pc := 4) d_MO_mostBlamed_4 rfl 0 rfl ?_
      refine g_aload_n (pc := 5) d_MO_mostBlamed_5 rfl 2 rfl ?_
      refine g_getR (pc := 6) (ci := 7) (f := 0) (b := st) rfl r_m_0 d_MO_mostBlamed_6 fl_MO_7 (by decide) k_m ?_
      refine g_bipush (pc := 9) (v := 8) d_MO_mostBlamed_9 (by decide) ?_
      refine g_mI (pc := 11) (k := 8) d_MO_mostBlamed_11 k_st l_st (by decide) nd ?_
      refine g_icmp_ge (pc := 12) (tgt := 65) d_MO_mostBlamed_12 (by decide) (fun c_12 => ?_) (fun c_12 => ?_)
      · skip
        have e9 : i = sc := by rw [hs] at c_12; have := (nI_leI (by omega) (by omega)).mp c_12; omega
        refine g_iload_n (pc := 65) d_MO_mostBlamed_65 rfl 1 rfl ?_
        refine g_iret (pc := 66) d_MO_mostBlamed_66 rfl ?_
        rw [← e9, eb]
        exact ⟨rfl, rfl⟩
      · skip
        have e9 : i < sc := by rw [hs] at c_12; exact Nat.lt_of_not_le (fun z => c_12 ((nI_leI (by omega) (by omega)).mpr z))
        refine g_aload_n (pc := 15) d_MO_mostBlamed_15 rfl 2 rfl ?_
        refine g_iload_n (pc := 16) d_MO_mostBlamed_16 rfl 0 rfl ?_
        refine g_cV1 (pc := 17) (ci := 7) (As := [.int _]) d_MO_mostBlamed_17 rfl mv_MO_canVisit st_MO_mostBlamed_118 rfl rfl (by decide) rfl rfl (Nat.le_of_ble_eq_true rfl) k_m (cm_MO_canVisit hM nd hG (by first | assumption | omega | decide)) ?_
        refine g_if_eq (pc := 20) (tgt := 59) d_MO_mostBlamed_20 (by decide) (fun c_20 => ?_) (fun c_20 => ?_)
        · skip
          obtain ⟨x_1, hx_1⟩ : ∃ y : Int32, y = (nI i) + 1 := ⟨_, rfl⟩
          refine g_iinc (pc := 59) (w := 0) (v := x_1) (lv' := [(2, .int x_1), (1, .int (nI j)), (0, .ref m)]) d_MO_mostBlamed_59 rfl (by rw [hx_1]; rfl) (by decide) rfl ?_
          refine g_goto (pc := 62) (tgt := 4) d_MO_mostBlamed_62 (by decide) ?_
          have e8 : x_1 = nI (i + 1) := by rw [hx_1]; exact nI_1 _
          clear hx_1
          subst e8
          have e7 : (nI j) = oI (P_most B (i + 1)).1 := by
            rw [P_most, if_neg ?_, eb]
            · rfl
            · intro q
              rw [m2] at q
              first | (rw [bI_0.mp c_20] at q; cases q.1; done) | (rw [c_30] at q; exact absurd q.2 (by decide)) | (rw [c_30] at q; exact absurd q.2 (i_nlt0 (hG.c0 hj).1)) | exact absurd q.2 (Int32.not_lt.mpr c_54)
          rw [e7]
          refine g_perm [0, 1, 2] rfl ?_
          exact ih (i + 1) (by omega) (by omega)
        · skip
          refine g_aload_n (pc := 23) d_MO_mostBlamed_23 rfl 2 rfl ?_
          refine g_iload_n (pc := 24) d_MO_mostBlamed_24 rfl 0 rfl ?_
          refine g_bipush (pc := 25) (v := 8) d_MO_mostBlamed_25 (by decide) ?_
          refine g_cV1 (pc := 27) (ci := 7) (As := [.int _, .int _]) d_MO_mostBlamed_27 rfl mv_MO_of st_MO_mostBlamed_69 rfl rfl (by decide) rfl rfl (Nat.le_of_ble_eq_true rfl) k_m (cm_MO_of (k := 8) hM nd n6 s8 (by first | assumption | omega | decide) (by decide)) ?_
          refine g_if_ne (pc := 30) (tgt := 36) d_MO_mostBlamed_30 (by decide) (fun c_30 => ?_) (fun c_30 => ?_)
          · skip
            refine g_iload_n (pc := 36) d_MO_mostBlamed_36 rfl 1 rfl ?_
            refine g_if_lt (pc := 37) (tgt := 57) d_MO_mostBlamed_37 (by decide) (fun c_37 => ?_) (fun c_37 => ?_)
            · exact absurd c_37 (nI_pos (by omega))
            · skip
              refine g_aload_n (pc := 40) d_MO_mostBlamed_40 rfl 2 rfl ?_
              refine g_iload_n (pc := 41) d_MO_mostBlamed_41 rfl 0 rfl ?_
              refine g_bipush (pc := 42) (v := 8) d_MO_mostBlamed_42 (by decide) ?_
              refine g_cV1 (pc := 44) (ci := 7) (As := [.int _, .int _]) d_MO_mostBlamed_44 rfl mv_MO_of st_MO_mostBlamed_69 rfl rfl (by decide) rfl rfl (Nat.le_of_ble_eq_true rfl) k_m (cm_MO_of (k := 8) hM nd n6 s8 (by first | assumption | omega | decide) (by decide)) ?_
              refine g_aload_n (pc := 47) d_MO_mostBlamed_47 rfl 2 rfl ?_
              refine g_iload_n (pc := 48) d_MO_mostBlamed_48 rfl 1 rfl ?_
              refine g_bipush (pc := 49) (v := 8) d_MO_mostBlamed_49 (by decide) ?_
              refine g_cV1 (pc := 51) (ci := 7) (As := [.int _, .int _]) d_MO_mostBlamed_51 rfl mv_MO_of st_MO_mostBlamed_69 rfl rfl (by decide) rfl rfl (Nat.le_of_ble_eq_true rfl) k_m (cm_MO_of (k := 8) hM nd n6 s8 (by first | assumption | omega | decide) (by decide)) ?_
              refine g_icmp_le (pc := 54) (tgt := 59) d_MO_mostBlamed_54 (by decide) (fun c_54 => ?_) (fun c_54 => ?_)
              · skip
                obtain ⟨x_2, hx_2⟩ : ∃ y : Int32, y = (nI i) + 1 := ⟨_, rfl⟩
                refine g_iinc (pc := 59) (w := 0) (v := x_2) (lv' := [(2, .int x_2), (1, .int (nI j)), (0, .ref m)]) d_MO_mostBlamed_59 rfl (by rw [hx_2]; rfl) (by decide) rfl ?_
                refine g_goto (pc := 62) (tgt := 4) d_MO_mostBlamed_62 (by decide) ?_
                have e8 : x_2 = nI (i + 1) := by rw [hx_2]; exact nI_1 _
                clear hx_2
                subst e8
                have e7 : (nI j) = oI (P_most B (i + 1)).1 := by
                  rw [P_most, if_neg ?_, eb]
                  · rfl
                  · intro q
                    rw [m2] at q
                    first | (rw [bI_0.mp c_20] at q; cases q.1; done) | (rw [c_30] at q; exact absurd q.2 (by decide)) | (rw [c_30] at q; exact absurd q.2 (i_nlt0 (hG.c0 hj).1)) | exact absurd q.2 (Int32.not_lt.mpr c_54)
                rw [e7]
                refine g_perm [0, 1, 2] rfl ?_
                exact ih (i + 1) (by omega) (by omega)
              · skip
                refine g_iload_n (pc := 57) d_MO_mostBlamed_57 rfl 0 rfl ?_
                refine g_istore_n (pc := 58) (lv' := [(1, .int (nI i)), (2, .int (nI i)), (0, .ref m)]) d_MO_mostBlamed_58 rfl (by decide) rfl ?_
                obtain ⟨x_3, hx_3⟩ : ∃ y : Int32, y = (nI i) + 1 := ⟨_, rfl⟩
                refine g_iinc (pc := 59) (w := 1) (v := x_3) (lv' := [(2, .int x_3), (1, .int (nI i)), (0, .ref m)]) d_MO_mostBlamed_59 rfl (by rw [hx_3]; rfl) (by decide) rfl ?_
                refine g_goto (pc := 62) (tgt := 4) d_MO_mostBlamed_62 (by decide) ?_
                have e8 : x_3 = nI (i + 1) := by rw [hx_3]; exact nI_1 _
                clear hx_3
                subst e8
                have e7 : nI i = oI (P_most B (i + 1)).1 := by
                  rw [P_most, if_pos ?_]
                  · rfl
                  · refine ⟨bI_n0 c_20, ?_⟩
                    rw [m2]
                    first | exact i_pos0 (hG.c0 e9).1 c_30 | exact Int32.not_le.mp c_54
                refine g_perm [0, 1, 2] rfl ?_
                show G E _ _ [(2, .int (nI (i + 1))), (1, .int (nI i)), (0, .ref m)] _ _ _ _ _ _
                rw [e7]
                exact ih (i + 1) (by omega) (by omega)
          · skip
            refine g_goto (pc := 33) (tgt := 59) d_MO_mostBlamed_33 (by decide) ?_
            obtain ⟨x_4, hx_4⟩ : ∃ y : Int32, y = (nI i) + 1 := ⟨_, rfl⟩
            refine g_iinc (pc := 59) (w := 0) (v := x_4) (lv' := [(2, .int x_4), (1, .int (nI j)), (0, .ref m)]) d_MO_mostBlamed_59 rfl (by rw [hx_4]; rfl) (by decide) rfl ?_
            refine g_goto (pc := 62) (tgt := 4) d_MO_mostBlamed_62 (by decide) ?_
            have e8 : x_4 = nI (i + 1) := by rw [hx_4]; exact nI_1 _
            clear hx_4
            subst e8
            have e7 : (nI j) = oI (P_most B (i + 1)).1 := by
              rw [P_most, if_neg ?_, eb]
              · rfl
              · intro q
                rw [m2] at q
                first | (rw [bI_0.mp c_20] at q; cases q.1; done) | (rw [c_30] at q; exact absurd q.2 (by decide)) | (rw [c_30] at q; exact absurd q.2 (i_nlt0 (hG.c0 hj).1)) | exact absurd q.2 (Int32.not_lt.mpr c_54)
            rw [e7]
            refine g_perm [0, 1, 2] rfl ?_
            exact ih (i + 1) (by omega) (by omega)
set_option maxRecDepth 20000 in
theorem cm_MO_mostBlamed {E : En} {h : Hp} {m st nw sc : Nat} {c g : Nat → Int32} {B : Bu} {R : List (Nat × (Nat → Int32))} {ni U : Nat} (hM : MoOk h m st) (nd : (m :: st :: R.map Prod.fst).Nodup) (hG : Gd B nw sc ni U) : CR E m_MO_mostBlamed [.ref m] (wL h ((m, c) :: (st, enc nw sc B g) :: R)) (some (.int (oI (P_most B sc).1))) (wL h ((m, c) :: (st, enc nw sc B g) :: R)) := by
  refine ct_of rfl (by decide +kernel) (Nat.le_of_ble_eq_true rfl) ?_
  show G E m_MO_mostBlamed 0 [(0, .ref m)] [] (wL h ((m, c) :: (st, enc nw sc B g) :: R)) 0 0 _ noX
  obtain ⟨k_m, r_m_0, k_st, l_st⟩ := id hM
  obtain ⟨hw, n6, hs, s8, h0, hni, n3, ⟨sd, hsd, hsx⟩, hop⟩ := id hG.1
  refine g_iconst (pc := 0) (v := (-1)) d_MO_mostBlamed_0 (by decide) ?_
  refine g_nameI (fun x_1 hx_1 => ?_)
  refine g_istore_n (pc := 1) (lv' := [(1, .int x_1), (0, .ref m)]) d_MO_mostBlamed_1 rfl (by decide) rfl ?_
  refine g_iconst (pc := 2) (v := 0) d_MO_mostBlamed_2 (by decide) ?_
  refine g_nameI (fun x_2 hx_2 => ?_)
  refine g_istore_n (pc := 3) (lv' := [(2, .int x_2), (1, .int x_1), (0, .ref m)]) d_MO_mostBlamed_3 rfl (by decide) rfl ?_
  subst hx_1
  subst hx_2
  exact lp_MO_mostBlamed hM nd hG (sc + 1) 0 (Nat.zero_le _) (by omega)
theorem lp_MO_canVisitAny {E : En} {h : Hp} {m st nw sc : Nat} {c g : Nat → Int32} {B : Bu} {R : List (Nat × (Nat → Int32))} {ni U : Nat} (hM : MoOk h m st) (nd : (m :: st :: R.map Prod.fst).Nodup) (hG : Gd B nw sc ni U) : ∀ (d i : Nat), i ≤ sc → (∀ j, j < i → M_can B.1 (B.2.2 j) = false) → sc - i < d → G E m_MO_canVisitAny 2 [(1, .int (nI i)), (0, .ref m)] [] (wL h ((m, c) :: (st, enc nw sc B g) :: R)) 0 0 (fun v1 h1 => v1 = some (.int (bI (P_any B sc))) ∧ h1 = wL h ((m, c) :: (st, enc nw sc B g) :: R)) noX := by
  obtain ⟨k_m, r_m_0, k_st, l_st⟩ := id hM
  intro d
  induction d with
  | zero => intros; omega
  | succ d ih =>
    intro i hi ha hd
    obtain ⟨hw, n6, hs, s8, h0, hni, n3, ⟨sd, hsd, hsx⟩, hop⟩ := id hG.1
    refine g_iload_n (pc := 2) d_MO_canVisitAny_2 rfl 0 rfl ?_
    refine g_aload_n (pc := 3) d_MO_canVisitAny_3 rfl 1 rfl ?_
    refine g_getR (pc := 4) (ci := 7) (f := 0) (b := st) rfl r_m_0 d_MO_canVisitAny_4 fl_MO_7 (by decide) k_m ?_
    refine g_bipush (pc := 7) (v := 8) d_MO_canVisitAny_7 (by decide) ?_
    refine g_mI (pc := 9) (k := 8) d_MO_canVisitAny_9 k_st l_st (by decide) nd ?_
    refine g_icmp_ge (pc := 10) (tgt := 29) d_MO_canVisitAny_10 (by decide) (fun c_10 => ?_) (fun c_10 => ?_)
    · skip
      have e9 : i = sc := by rw [hs] at c_10; have := (nI_leI (by omega) (by omega)).mp c_10; omega
      refine g_iconst (pc := 29) (v := 0) d_MO_canVisitAny_29 (by decide) ?_
      refine g_zret (pc := 30) d_MO_canVisitAny_30 rfl (by first | rfl | exact nar_bI _) ?_
      rw [P_any_f (fun j hj => ha j (by omega))]
      exact ⟨rfl, rfl⟩
    · skip
      have e9 : i < sc := by rw [hs] at c_10; exact Nat.lt_of_not_le (fun z => c_10 ((nI_leI (by omega) (by omega)).mpr z))
      refine g_aload_n (pc := 13) d_MO_canVisitAny_13 rfl 1 rfl ?_
      refine g_iload_n (pc := 14) d_MO_canVisitAny_14 rfl 0 rfl ?_
      refine g_cV1 (pc := 15) (ci := 7) (As := [.int _]) d_MO_canVisitAny_15 rfl mv_MO_canVisit st_MO_canVisitAny_118 rfl rfl (by decide) rfl rfl (Nat.le_of_ble_eq_true rfl) k_m (cm_MO_canVisit hM nd hG (by first | assumption | omega | decide)) ?_
      refine g_if_eq (pc := 18) (tgt := 23) d_MO_canVisitAny_18 (by decide) (fun c_18 => ?_) (fun c_18 => ?_)
      · skip
        obtain ⟨x_1, hx_1⟩ : ∃ y : Int32, y = (nI i) + 1 := ⟨_, rfl⟩
        refine g_iinc (pc := 23) (w := 0) (v := x_1) (lv' := [(1, .int x_1), (0, .ref m)]) d_MO_canVisitAny_23 rfl (by rw [hx_1]; rfl) (by decide) rfl ?_
        refine g_goto (pc := 26) (tgt := 2) d_MO_canVisitAny_26 (by decide) ?_
        have e8 : x_1 = nI (i + 1) := by rw [hx_1]; exact nI_1 _
        clear hx_1
        subst e8
        exact ih (i + 1) (by omega) (fun j hj => (Nat.lt_or_eq_of_le (Nat.le_of_lt_succ hj)).elim (fun z => ha j z) (fun z => by rw [z]; exact bI_0.mp c_18)) (by omega)
      · skip
        refine g_iconst (pc := 21) (v := 1) d_MO_canVisitAny_21 (by decide) ?_
        refine g_zret (pc := 22) d_MO_canVisitAny_22 rfl (by first | rfl | exact nar_bI _) ?_
        rw [P_any_t e9 (bI_n0 c_18)]
        exact ⟨rfl, rfl⟩
set_option maxRecDepth 20000 in
theorem cm_MO_canVisitAny {E : En} {h : Hp} {m st nw sc : Nat} {c g : Nat → Int32} {B : Bu} {R : List (Nat × (Nat → Int32))} {ni U : Nat} (hM : MoOk h m st) (nd : (m :: st :: R.map Prod.fst).Nodup) (hG : Gd B nw sc ni U) : CR E m_MO_canVisitAny [.ref m] (wL h ((m, c) :: (st, enc nw sc B g) :: R)) (some (.int (bI (P_any B sc)))) (wL h ((m, c) :: (st, enc nw sc B g) :: R)) := by
  refine ct_of rfl (by decide +kernel) (Nat.le_of_ble_eq_true rfl) ?_
  show G E m_MO_canVisitAny 0 [(0, .ref m)] [] (wL h ((m, c) :: (st, enc nw sc B g) :: R)) 0 0 _ noX
  obtain ⟨k_m, r_m_0, k_st, l_st⟩ := id hM
  obtain ⟨hw, n6, hs, s8, h0, hni, n3, ⟨sd, hsd, hsx⟩, hop⟩ := id hG.1
  refine g_iconst (pc := 0) (v := 0) d_MO_canVisitAny_0 (by decide) ?_
  refine g_nameI (fun x_1 hx_1 => ?_)
  refine g_istore_n (pc := 1) (lv' := [(1, .int x_1), (0, .ref m)]) d_MO_canVisitAny_1 rfl (by decide) rfl ?_
  subst hx_1
  exact lp_MO_canVisitAny hM nd hG (sc + 1) 0 (Nat.zero_le _) (fun j hj => by omega) (by omega)
theorem lp_MO_choose {E : En} {h : Hp} {m st nw sc : Nat} {c g : Nat → Int32} {B : Bu} {R : List (Nat × (Nat → Int32))} {ni U : Nat} {v0 : Int32} (hM : MoOk h m st) (nd : (m :: st :: R.map Prod.fst).Nodup) (hG : Gd B nw sc ni U) : ∀ (d j r : Nat), j < sc → P_next B sc d j = some r → G E m_MO_choose 59 [(2, .int (nI j)), (1, .int v0), (0, .ref m)] [] (wL h ((m, c) :: (st, enc nw sc B g) :: R)) 0 0 (fun v1 h1 => v1 = some (.int (nI r)) ∧ h1 = wL h ((m, c) :: (st, enc nw sc B g) :: R)) noX := by
  obtain ⟨k_m, r_m_0, k_st, l_st⟩ := id hM
  intro d
  induction d with
  | zero => intro j r hj hr; cases hr
  | succ d ih =>
    intro j r hj hr
    obtain ⟨hw, n6, hs, s8, h0, hni, n3, ⟨sd, hsd, hsx⟩, hop⟩ := id hG.1
    rw [P_next] at hr
    refine g_aload_n (pc := 59) d_MO_choose_59 rfl 2 rfl ?_
    refine g_iload_n (pc := 60) d_MO_choose_60 rfl 0 rfl ?_
    refine g_cV1 (pc := 61) (ci := 7) (As := [.int _]) d_MO_choose_61 rfl mv_MO_canVisit st_MO_choose_118 rfl rfl (by decide) rfl rfl (Nat.le_of_ble_eq_true rfl) k_m (cm_MO_canVisit hM nd hG (by first | assumption | omega | decide)) ?_
    refine g_if_ne (pc := 64) (tgt := 82) d_MO_choose_64 (by decide) (fun c_64 => ?_) (fun c_64 => ?_)
    · skip
      refine g_iload_n (pc := 82) d_MO_choose_82 rfl 0 rfl ?_
      refine g_iret (pc := 83) d_MO_choose_83 rfl ?_
      rw [if_pos (bI_n0 c_64)] at hr
      cases hr
      exact ⟨rfl, rfl⟩
    · skip
      refine g_iload_n (pc := 67) d_MO_choose_67 rfl 0 rfl ?_
      refine g_iconst (pc := 68) (v := 1) d_MO_choose_68 (by decide) ?_
      refine g_iadd (pc := 69) d_MO_choose_69 ?_
      refine g_aload_n (pc := 70) d_MO_choose_70 rfl 2 rfl ?_
      refine g_getR (pc := 71) (ci := 7) (f := 0) (b := st) rfl r_m_0 d_MO_choose_71 fl_MO_7 (by decide) k_m ?_
      refine g_bipush (pc := 74) (v := 8) d_MO_choose_74 (by decide) ?_
      refine g_mI (pc := 76) (k := 8) d_MO_choose_76 k_st l_st (by decide) nd ?_
      rw [hs, nI_1]
      refine g_irem (pc := 77) d_MO_choose_77 (by exact nI_ne0 h0 (by omega)) ?_
      rw [nI_rem (by omega) (by omega) h0]
      refine g_istore_n (pc := 78) (lv' := [(2, .int (nI ((j + 1) % sc))), (1, .int v0), (0, .ref m)]) d_MO_choose_78 rfl (by decide) rfl ?_
      refine g_goto (pc := 79) (tgt := 59) d_MO_choose_79 (by decide) ?_
      rw [if_neg (fun z => by rw [bI_0.mp c_64] at z; cases z)] at hr
      exact ih _ r (Nat.mod_lt _ h0) (by rw [nx_mod hj]; exact hr)
set_option maxRecDepth 20000 in
theorem cm_MO_choose {E : En} {h : Hp} {m st nw sc : Nat} {c g : Nat → Int32} {B : Bu} {R : List (Nat × (Nat → Int32))} {ni U : Nat} (hM : MoOk h m st) (nd : (m :: st :: R.map Prod.fst).Nodup) (hG : Gd B nw sc ni U) : CR E m_MO_choose [.ref m] (wL h ((m, c) :: (st, enc nw sc B g) :: R)) (some (.int (oI (P_choose B sc).1))) (wL h ((m, c) :: (st, enc nw sc (P_choose B sc).2 g) :: R)) := by
  refine ct_of rfl (by decide +kernel) (Nat.le_of_ble_eq_true rfl) ?_
  show G E m_MO_choose 0 [(0, .ref m)] [] (wL h ((m, c) :: (st, enc nw sc B g) :: R)) 0 0 _ noX
  obtain ⟨k_m, r_m_0, k_st, l_st⟩ := id hM
  obtain ⟨hw, n6, hs, s8, h0, hni, n3, ⟨sd, hsd, hsx⟩, hop⟩ := id hG.1
  refine g_aload_n (pc := 0) d_MO_choose_0 rfl 0 rfl ?_
  refine g_cV1 (pc := 1) (ci := 7) (As := []) d_MO_choose_1 rfl mv_MO_canVisitAny st_MO_choose_121 rfl rfl (by decide) rfl rfl (Nat.le_of_ble_eq_true rfl) k_m (cm_MO_canVisitAny hM nd hG) ?_
  refine g_if_ne (pc := 4) (tgt := 9) d_MO_choose_4 (by decide) (fun c_4 => ?_) (fun c_4 => ?_)
  · skip
    have q1 := bI_n0 c_4
    refine g_aload_n (pc := 9) d_MO_choose_9 rfl 0 rfl ?_
    refine g_cV1 (pc := 10) (ci := 7) (As := []) d_MO_choose_10 rfl mv_MO_mostBlamed st_MO_choose_125 rfl rfl (by decide) rfl rfl (Nat.le_of_ble_eq_true rfl) k_m (cm_MO_mostBlamed hM nd hG) ?_
    refine g_istore_n (pc := 13) (lv' := [(1, .int (oI (P_most B sc).1)), (0, .ref m)]) d_MO_choose_13 rfl (by decide) rfl ?_
    refine g_iload_n (pc := 14) d_MO_choose_14 rfl 0 rfl ?_
    refine g_if_lt (pc := 15) (tgt := 20) d_MO_choose_15 (by decide) (fun c_15 => ?_) (fun c_15 => ?_)
    · skip
      have q2 : (P_most B sc).1 = none := by
        cases e : (P_most B sc).1 with
        | none => rfl
        | some i => rw [e] at c_15; exact absurd c_15 (nI_pos (by have := P_most_lt B sc i e; omega))
      obtain ⟨j0, hj0, hc0⟩ := P_any_ex q1
      have q3 : ¬ P_next B sc sc 0 = none := by obtain ⟨r, hr⟩ := P_next_sc hj0 hc0 h0; rw [hr]; intro z; cases z
      have q9 : P_choose B sc = (P_next (sC B (u1 B.1 6 (nI (M_seed (B.1 6))))) sc sc (M_seed (B.1 6) % sc), (sC B (u1 B.1 6 (nI (M_seed (B.1 6)))))) := by unfold P_choose; rw [if_neg (fun z => z.elim (fun z => z q2) q3)]
      refine g_aload_n (pc := 20) d_MO_choose_20 rfl 1 rfl ?_
      refine g_getR (pc := 21) (ci := 7) (f := 0) (b := st) rfl r_m_0 d_MO_choose_21 fl_MO_7 (by decide) k_m ?_
      refine g_bipush (pc := 24) (v := 6) d_MO_choose_24 (by decide) ?_
      refine g_bipush (pc := 26) (v := 75) d_MO_choose_26 (by decide) ?_
      refine g_aload_n (pc := 28) d_MO_choose_28 rfl 1 rfl ?_
      refine g_getR (pc := 29) (ci := 7) (f := 0) (b := st) rfl r_m_0 d_MO_choose_29 fl_MO_7 (by decide) k_m ?_
      refine g_bipush (pc := 32) (v := 6) d_MO_choose_32 (by decide) ?_
      refine g_mI (pc := 34) (k := 6) d_MO_choose_34 k_st l_st (by decide) nd ?_
      refine g_imul (pc := 35) d_MO_choose_35 ?_
      refine g_bipush (pc := 36) (v := 74) d_MO_choose_36 (by decide) ?_
      refine g_iadd (pc := 38) d_MO_choose_38 ?_
      refine g_ldci (pc := 39) d_MO_choose_39 co_MO_129 ?_
      refine g_irem (pc := 41) d_MO_choose_41 (by decide) ?_
      rw [hsx, seed_eq hsd, ← hsx]
      refine g_mIS (pc := 42) (k := 6) d_MO_choose_42 k_st l_st (by decide) nd ?_
      refine g_aload_n (pc := 43) d_MO_choose_43 rfl 1 rfl ?_
      refine g_getR (pc := 44) (ci := 7) (f := 0) (b := st) rfl r_m_0 d_MO_choose_44 fl_MO_7 (by decide) k_m ?_
      refine g_bipush (pc := 47) (v := 6) d_MO_choose_47 (by decide) ?_
      refine g_mI (pc := 49) (k := 6) d_MO_choose_49 k_st l_st (by decide) nd ?_
      refine g_aload_n (pc := 50) d_MO_choose_50 rfl 1 rfl ?_
      refine g_getR (pc := 51) (ci := 7) (f := 0) (b := st) rfl r_m_0 d_MO_choose_51 fl_MO_7 (by decide) k_m ?_
      refine g_bipush (pc := 54) (v := 8) d_MO_choose_54 (by decide) ?_
      refine g_mI (pc := 56) (k := 8) d_MO_choose_56 k_st l_st (by decide) nd ?_
      rw [show (sC B (u1 B.1 6 (nI (M_seed (B.1 6))))).1 6 = nI (M_seed (B.1 6)) from rfl, show (sC B (u1 B.1 6 (nI (M_seed (B.1 6))))).1 8 = nI sc from hs]
      refine g_irem (pc := 57) d_MO_choose_57 (by exact nI_ne0 h0 (by omega)) ?_
      rw [nI_rem (Nat.lt_of_le_of_lt (M_seed_lt _) (by decide)) (by omega) h0]
      refine g_istore_n (pc := 58) (lv' := [(2, .int (nI (M_seed (B.1 6) % sc))), (1, .int (oI (P_most B sc).1)), (0, .ref m)]) d_MO_choose_58 rfl (by decide) rfl ?_
      obtain ⟨r, hr⟩ := P_next_sc (B := (sC B (u1 B.1 6 (nI (M_seed (B.1 6)))))) hj0 hc0 (Nat.mod_lt (M_seed (B.1 6)) h0)
      rw [q9, hr]
      exact lp_MO_choose hM nd (Gd_seed hG (M_seed_lt _)) sc _ r (Nat.mod_lt _ h0) hr
    · skip
      have q9 : P_choose B sc = ((P_most B sc).1, B) := by
        have z : (P_most B sc).1 ≠ none := fun e => by rw [e] at c_15; exact absurd (show (-1 : Int32) < 0 by decide) c_15
        unfold P_choose
        rw [if_pos (Or.inl z)]
      refine g_iload_n (pc := 18) d_MO_choose_18 rfl 0 rfl ?_
      refine g_iret (pc := 19) d_MO_choose_19 rfl ?_
      rw [q9]
      exact ⟨rfl, rfl⟩
  · skip
    have q9 : P_choose B sc = (none, B) := by
      have z := bI_0.mp c_4
      have z1 := P_most_any z
      unfold P_choose
      rw [if_pos (Or.inr (P_next_none (fun j hj => P_any_no z hj) sc 0 h0)), z1]
    refine g_iconst (pc := 7) (v := (-1)) d_MO_choose_7 (by decide) ?_
    refine g_iret (pc := 8) d_MO_choose_8 rfl ?_
    rw [q9]
    exact ⟨rfl, rfl⟩
theorem lp_MO_beginDay2 {E : En} {h : Hp} {m st nw sc : Nat} {c g : Nat → Int32} {B : Bu} {R : List (Nat × (Nat → Int32))} (hM : MoOk h m st) (nd : (m :: st :: R.map Prod.fst).Nodup) (n6 : nw ≤ 6) (s8 : sc ≤ 8) (hs : B.1 8 = nI sc) (hop : ∀ i, i < sc → B.2.2 i 12 = 0 ∨ B.2.2 i 12 = 1) : ∀ (d i : Nat), i ≤ sc → sc - i < d → G E m_MO_beginDay 37 [(1, .int (nI i)), (0, .ref m)] [] (wL h ((m, c) :: (st, enc nw sc (P_trade i B) g) :: R)) 0 0 (fun v1 h1 => v1 = none ∧ h1 = wL h ((m, c) :: (st, enc nw sc (P_trade sc B) g) :: R)) noX := by
  obtain ⟨k_m, r_m_0, k_st, l_st⟩ := id hM
  intro d
  induction d with
  | zero => intros; omega
  | succ d ih =>
    intro i hi hd
    refine g_iload_n (pc := 37) d_MO_beginDay_37 rfl 0 rfl ?_
    refine g_aload_n (pc := 38) d_MO_beginDay_38 rfl 1 rfl ?_
    refine g_getR (pc := 39) (ci := 7) (f := 0) (b := st) rfl r_m_0 d_MO_beginDay_39 fl_MO_7 (by decide) k_m ?_
    refine g_bipush (pc := 42) (v := 8) d_MO_beginDay_42 (by decide) ?_
    refine g_mI (pc := 44) (k := 8) d_MO_beginDay_44 k_st l_st (by decide) nd ?_
    refine g_icmp_ge (pc := 45) (tgt := 67) d_MO_beginDay_45 (by decide) (fun c_45 => ?_) (fun c_45 => ?_)
    · skip
      have e9 : i = sc := by rw [P_trade_c, hs] at c_45; have := (nI_leI (by omega) (by omega)).mp c_45; omega
      refine g_vret (pc := 67) d_MO_beginDay_67 rfl ?_
      rw [e9]
      exact ⟨rfl, rfl⟩
    · skip
      have e9 : i < sc := by rw [P_trade_c, hs] at c_45; exact Nat.lt_of_not_le (fun z => c_45 ((nI_leI (by omega) (by omega)).mpr z))
      refine g_aload_n (pc := 48) d_MO_beginDay_48 rfl 1 rfl ?_
      refine g_iload_n (pc := 49) d_MO_beginDay_49 rfl 0 rfl ?_
      refine g_cV1 (pc := 50) (ci := 7) (As := [.int _]) d_MO_beginDay_50 rfl mv_MO_isOpenShop st_MO_beginDay_115 rfl rfl (by decide) rfl rfl (Nat.le_of_ble_eq_true rfl) k_m (cm_MO_isOpenShop hM nd n6 s8 (by first | assumption | omega | decide) (by rw [P_trade_i]; exact hop i e9)) ?_
      refine g_if_eq (pc := 53) (tgt := 61) d_MO_beginDay_53 (by decide) (fun c_53 => ?_) (fun c_53 => ?_)
      · skip
        have c_53z : B.2.2 i 12 = 0 := by have z := of_decide_eq_false (bI_0.mp c_53); rw [P_trade_i] at z; exact Decidable.not_not.mp z
        obtain ⟨x_1, hx_1⟩ : ∃ y : Int32, y = (nI i) + 1 := ⟨_, rfl⟩
        refine g_iinc (pc := 61) (w := 0) (v := x_1) (lv' := [(1, .int x_1), (0, .ref m)]) d_MO_beginDay_61 rfl (by rw [hx_1]; rfl) (by decide) rfl ?_
        refine g_goto (pc := 64) (tgt := 37) d_MO_beginDay_64 (by decide) ?_
        have e8 : x_1 = nI (i + 1) := by rw [hx_1]; exact nI_1 _
        clear hx_1
        subst e8
        refine g_h (h' := wL h ((m, c) :: (st, enc nw sc (P_trade (i + 1) B) g) :: R)) ?_ (ih (i + 1) (by omega) (by omega))
        rw [P_trade_S]
        unfold M_trade
        first | (rw [if_pos c_53z, ← P_trade_i B i, sS_self]; done) | (rw [if_neg c_53z, P_trade_i B i, P_trade_c]; done)
      · skip
        have c_53z : ¬ B.2.2 i 12 = 0 := by have z := of_decide_eq_true (bI_n0 c_53); rw [P_trade_i] at z; exact z
        refine g_aload_n (pc := 56) d_MO_beginDay_56 rfl 1 rfl ?_
        refine g_iload_n (pc := 57) d_MO_beginDay_57 rfl 0 rfl ?_
        refine g_cV0 (pc := 58) (ci := 7) (As := [.int _]) d_MO_beginDay_58 rfl mv_MO_sell st_MO_beginDay_133 rfl rfl (by decide) rfl rfl (Nat.le_of_ble_eq_true rfl) k_m (cm_MO_sell hM nd n6 s8 (by first | assumption | omega | decide)) ?_
        obtain ⟨x_2, hx_2⟩ : ∃ y : Int32, y = (nI i) + 1 := ⟨_, rfl⟩
        refine g_iinc (pc := 61) (w := 0) (v := x_2) (lv' := [(1, .int x_2), (0, .ref m)]) d_MO_beginDay_61 rfl (by rw [hx_2]; rfl) (by decide) rfl ?_
        refine g_goto (pc := 64) (tgt := 37) d_MO_beginDay_64 (by decide) ?_
        have e8 : x_2 = nI (i + 1) := by rw [hx_2]; exact nI_1 _
        clear hx_2
        subst e8
        refine g_h (h' := wL h ((m, c) :: (st, enc nw sc (P_trade (i + 1) B) g) :: R)) ?_ (ih (i + 1) (by omega) (by omega))
        rw [P_trade_S]
        unfold M_trade
        first | (rw [if_pos c_53z, ← P_trade_i B i, sS_self]; done) | (rw [if_neg c_53z, P_trade_i B i, P_trade_c]; done)
theorem lp_MO_beginDay1 {E : En} {h : Hp} {m st nw sc : Nat} {c g : Nat → Int32} {B : Bu} {R : List (Nat × (Nat → Int32))} (hM : MoOk h m st) (nd : (m :: st :: R.map Prod.fst).Nodup) (n6 : nw ≤ 6) (s8 : sc ≤ 8) (hs : B.1 8 = nI sc) (hop : ∀ i, i < sc → B.2.2 i 12 = 0 ∨ B.2.2 i 12 = 1) : ∀ (d i : Nat), i ≤ sc → sc - i < d → G E m_MO_beginDay 13 [(1, .int (nI i)), (0, .ref m)] [] (wL h ((m, c) :: (st, enc nw sc (P_drift i B) g) :: R)) 0 0 (fun v1 h1 => v1 = none ∧ h1 = wL h ((m, c) :: (st, enc nw sc (P_trade sc (P_drift sc B)) g) :: R)) noX := by
  obtain ⟨k_m, r_m_0, k_st, l_st⟩ := id hM
  intro d
  induction d with
  | zero => intros; omega
  | succ d ih =>
    intro i hi hd
    refine g_iload_n (pc := 13) d_MO_beginDay_13 rfl 0 rfl ?_
    refine g_aload_n (pc := 14) d_MO_beginDay_14 rfl 1 rfl ?_
    refine g_getR (pc := 15) (ci := 7) (f := 0) (b := st) rfl r_m_0 d_MO_beginDay_15 fl_MO_7 (by decide) k_m ?_
    refine g_bipush (pc := 18) (v := 8) d_MO_beginDay_18 (by decide) ?_
    refine g_mI (pc := 20) (k := 8) d_MO_beginDay_20 k_st l_st (by decide) nd ?_
    refine g_icmp_ge (pc := 21) (tgt := 35) d_MO_beginDay_21 (by decide) (fun c_21 => ?_) (fun c_21 => ?_)
    · skip
      have e9 : i = sc := by rw [P_drift_c, hs] at c_21; have := (nI_leI (by omega) (by omega)).mp c_21; omega
      refine g_iconst (pc := 35) (v := 0) d_MO_beginDay_35 (by decide) ?_
      refine g_nameI (fun x_1 hx_1 => ?_)
      refine g_istore_n (pc := 36) (lv' := [(1, .int x_1), (0, .ref m)]) d_MO_beginDay_36 rfl (by decide) rfl ?_
      subst hx_1
      rw [e9]
      refine g_h (h' := wL h ((m, c) :: (st, enc nw sc (P_trade 0 (P_drift sc B)) g) :: R)) (by rw [P_trade_0]) ?_
      exact lp_MO_beginDay2 (B := P_drift sc B) hM nd n6 s8 hs (op_drift hop) (sc + 1) 0 (Nat.zero_le _) (by omega)
    · skip
      have e9 : i < sc := by rw [P_drift_c, hs] at c_21; exact Nat.lt_of_not_le (fun z => c_21 ((nI_leI (by omega) (by omega)).mpr z))
      refine g_aload_n (pc := 24) d_MO_beginDay_24 rfl 1 rfl ?_
      refine g_iload_n (pc := 25) d_MO_beginDay_25 rfl 0 rfl ?_
      refine g_cV0 (pc := 26) (ci := 7) (As := [.int _]) d_MO_beginDay_26 rfl mv_MO_driftOne st_MO_beginDay_130 rfl rfl (by decide) rfl rfl (Nat.le_of_ble_eq_true rfl) k_m (cm_MO_driftOne hM nd n6 s8 (by first | assumption | omega | decide)) ?_
      obtain ⟨x_2, hx_2⟩ : ∃ y : Int32, y = (nI i) + 1 := ⟨_, rfl⟩
      refine g_iinc (pc := 29) (w := 0) (v := x_2) (lv' := [(1, .int x_2), (0, .ref m)]) d_MO_beginDay_29 rfl (by rw [hx_2]; rfl) (by decide) rfl ?_
      refine g_goto (pc := 32) (tgt := 13) d_MO_beginDay_32 (by decide) ?_
      have e8 : x_2 = nI (i + 1) := by rw [hx_2]; exact nI_1 _
      clear hx_2
      subst e8
      refine g_h (h' := wL h ((m, c) :: (st, enc nw sc (P_drift (i + 1) B) g) :: R)) ?_ (ih (i + 1) (by omega) (by omega))
      rw [P_drift_S]
set_option maxRecDepth 20000 in
theorem cm_MO_beginDay {E : En} {h : Hp} {m st nw sc : Nat} {c g : Nat → Int32} {B : Bu} {R : List (Nat × (Nat → Int32))} {ni U : Nat} (hM : MoOk h m st) (nd : (m :: st :: R.map Prod.fst).Nodup) (hG : Gd B nw sc ni U) : CR E m_MO_beginDay [.ref m] (wL h ((m, c) :: (st, enc nw sc B g) :: R)) (none) (wL h ((m, c) :: (st, enc nw sc (P_trade sc (P_begin sc B)) g) :: R)) := by
  refine ct_of rfl (by decide +kernel) (Nat.le_of_ble_eq_true rfl) ?_
  show G E m_MO_beginDay 0 [(0, .ref m)] [] (wL h ((m, c) :: (st, enc nw sc B g) :: R)) 0 0 _ noX
  obtain ⟨k_m, r_m_0, k_st, l_st⟩ := id hM
  obtain ⟨hw, n6, hs, s8, h0, hni, n3, ⟨sd, hsd, hsx⟩, hop⟩ := id hG.1
  refine g_aload_n (pc := 0) d_MO_beginDay_0 rfl 0 rfl ?_
  refine g_getR (pc := 1) (ci := 7) (f := 0) (b := st) rfl r_m_0 d_MO_beginDay_1 fl_MO_7 (by decide) k_m ?_
  refine g_bipush (pc := 4) (v := 9) d_MO_beginDay_4 (by decide) ?_
  refine g_dup2 (pc := 6) d_MO_beginDay_6 rfl rfl ?_
  refine g_mI (pc := 7) (k := 9) d_MO_beginDay_7 k_st l_st (by decide) nd ?_
  refine g_iconst (pc := 8) (v := 1) d_MO_beginDay_8 (by decide) ?_
  refine g_iadd (pc := 9) d_MO_beginDay_9 ?_
  refine g_mIS (pc := 10) (k := 9) d_MO_beginDay_10 k_st l_st (by decide) nd ?_
  refine g_iconst (pc := 11) (v := 0) d_MO_beginDay_11 (by decide) ?_
  refine g_nameI (fun x_1 hx_1 => ?_)
  refine g_istore_n (pc := 12) (lv' := [(1, .int x_1), (0, .ref m)]) d_MO_beginDay_12 rfl (by decide) rfl ?_
  subst hx_1
  refine g_h (h' := wL h ((m, c) :: (st, enc nw sc (P_drift 0 (sC B (u1 B.1 9 (B.1 9 + 1)))) g) :: R)) (by rw [P_drift_0]) ?_
  exact lp_MO_beginDay1 (B := (sC B (u1 B.1 9 (B.1 9 + 1)))) hM nd n6 s8 hs hop (sc + 1) 0 (Nat.zero_le _) (by omega)
theorem lp_MO_passOne {E : En} {h : Hp} {m st nw sc : Nat} {c g : Nat → Int32} {R : List (Nat × (Nat → Int32))} {ni U : Nat} (hM : MoOk h m st) (nd : (m :: st :: R.map Prod.fst).Nodup) : ∀ (d s : Nat) (q : Nat × Bu), s ≤ ni → Gd q.2 nw sc ni U → ni - s < d → G E m_MO_passOne 6 [(1, .int (nI s)), (0, .ref m)] [] (wL h ((m, c) :: (st, enc nw sc q.2 g) :: R)) 0 0 (fun v1 h1 => v1 = none ∧ h1 = wL h ((m, c) :: (st, enc nw sc (P_sent nw sc (ni - s) q).2 g) :: R)) noX := by
  obtain ⟨k_m, r_m_0, k_st, l_st⟩ := id hM
  intro d
  induction d with
  | zero => intros; omega
  | succ d ih =>
    intro s q hsn hG hd
    obtain ⟨hw, n6, hs, s8, h0, hni, n3, -, hop⟩ := id hG.1
    have hk1 := Gd_choose hG
    have hk2 := Gd_sent1 (q := q) hG
    obtain ⟨q1, B⟩ := q
    refine g_iload_n (pc := 6) d_MO_passOne_6 rfl 0 rfl ?_
    refine g_aload_n (pc := 7) d_MO_passOne_7 rfl 1 rfl ?_
    refine g_getR (pc := 8) (ci := 7) (f := 0) (b := st) rfl r_m_0 d_MO_passOne_8 fl_MO_7 (by decide) k_m ?_
    refine g_iconst (pc := 11) (v := 5) d_MO_passOne_11 (by decide) ?_
    refine g_mI (pc := 12) (k := 5) d_MO_passOne_12 k_st l_st (by decide) nd ?_
    refine g_icmp_ge (pc := 13) (tgt := 37) d_MO_passOne_13 (by decide) (fun c_13 => ?_) (fun c_13 => ?_)
    · skip
      have e9 : s = ni := by rw [hni] at c_13; have := (nI_leI (by omega) (by omega)).mp c_13; omega
      refine g_vret (pc := 37) d_MO_passOne_37 rfl ?_
      rw [show ni - s = 0 by omega]
      exact ⟨rfl, rfl⟩
    · skip
      have e9 : s < ni := by rw [hni] at c_13; exact Nat.lt_of_not_le (fun z => c_13 ((nI_leI (by omega) (by omega)).mpr z))
      refine g_aload_n (pc := 16) d_MO_passOne_16 rfl 1 rfl ?_
      refine g_cV1 (pc := 17) (ci := 7) (As := []) d_MO_passOne_17 rfl mv_MO_choose st_MO_passOne_139 rfl rfl (by decide) rfl rfl (Nat.le_of_ble_eq_true rfl) k_m (cm_MO_choose hM nd hG) ?_
      refine g_nameI (fun x_1 hx_1 => ?_)
      refine g_istore_n (pc := 20) (lv' := [(2, .int x_1), (1, .int (nI s)), (0, .ref m)]) d_MO_passOne_20 rfl (by decide) rfl ?_
      refine g_iload_n (pc := 21) d_MO_passOne_21 rfl 0 rfl ?_
      refine g_if_lt (pc := 22) (tgt := 31) d_MO_passOne_22 (by decide) (fun c_22 => ?_) (fun c_22 => ?_)
      · skip
        rw [hx_1] at c_22
        have ec : (P_choose B sc).1 = none := by
          cases e : (P_choose B sc).1 with
          | none => rfl
          | some i => rw [e] at c_22; exact absurd c_22 (nI_pos (by have := P_choose_lt h0 e; omega))
        obtain ⟨x_2, hx_2⟩ : ∃ y : Int32, y = (nI s) + 1 := ⟨_, rfl⟩
        refine g_iinc (pc := 31) (w := 1) (v := x_2) (lv' := [(1, .int x_2), (2, .int x_1), (0, .ref m)]) d_MO_passOne_31 rfl (by rw [hx_2]; rfl) (by decide) rfl ?_
        refine g_goto (pc := 34) (tgt := 6) d_MO_passOne_34 (by decide) ?_
        have e8 : x_2 = nI (s + 1) := by rw [hx_2]; exact nI_1 _
        clear hx_2
        subst e8
        refine g_perm [0, 2] rfl ?_
        rw [show ni - s = (ni - (s + 1)) + 1 by omega, P_sent_S]
        first
        | (rw [P_sent1_n (show (P_choose (q1, B).2 sc).1 = none from ec)] at hk2 ⊢; exact ih (s + 1) (q1, (P_choose B sc).2) (by omega) hk2 (by omega))
        | (rw [P_sent1_s (show (P_choose (q1, B).2 sc).1 = some c9 from ec)] at hk2 ⊢; exact ih (s + 1) (q1 + 1, P_ins (P_choose B sc).2 c9 nw) (by omega) hk2 (by omega))
      · skip
        rw [hx_1] at c_22
        obtain ⟨c9, ec⟩ : ∃ c9, (P_choose B sc).1 = some c9 := by
          cases e : (P_choose B sc).1 with
          | none => exact absurd (show (-1 : Int32) < 0 by decide) (by rw [e] at c_22; exact c_22)
          | some c9 => exact ⟨c9, rfl⟩
        rw [ec, oI_some] at hx_1
        have hc9 : c9 < sc := P_choose_lt h0 ec
        refine g_aload_n (pc := 25) d_MO_passOne_25 rfl 2 rfl ?_
        refine g_iload_n (pc := 26) d_MO_passOne_26 rfl 0 rfl ?_
        refine g_top hx_1 ?_
        refine g_cV1 (pc := 27) (ci := 7) (As := [.int _]) d_MO_passOne_27 rfl mv_MO_visitNow st_MO_passOne_142 rfl rfl (by decide) rfl rfl (Nat.le_of_ble_eq_true rfl) k_m (cm_MO_visitNow hM nd n6 s8 hc9 hk1.1.1 (hk1.tot hc9)) ?_
        refine g_pop (pc := 30) d_MO_passOne_30 rfl ?_
        obtain ⟨x_3, hx_3⟩ : ∃ y : Int32, y = (nI s) + 1 := ⟨_, rfl⟩
        refine g_iinc (pc := 31) (w := 1) (v := x_3) (lv' := [(1, .int x_3), (2, .int x_1), (0, .ref m)]) d_MO_passOne_31 rfl (by rw [hx_3]; rfl) (by decide) rfl ?_
        refine g_goto (pc := 34) (tgt := 6) d_MO_passOne_34 (by decide) ?_
        have e8 : x_3 = nI (s + 1) := by rw [hx_3]; exact nI_1 _
        clear hx_3
        subst e8
        refine g_perm [0, 2] rfl ?_
        rw [show ni - s = (ni - (s + 1)) + 1 by omega, P_sent_S]
        first
        | (rw [P_sent1_n (show (P_choose (q1, B).2 sc).1 = none from ec)] at hk2 ⊢; exact ih (s + 1) (q1, (P_choose B sc).2) (by omega) hk2 (by omega))
        | (rw [P_sent1_s (show (P_choose (q1, B).2 sc).1 = some c9 from ec)] at hk2 ⊢; exact ih (s + 1) (q1 + 1, P_ins (P_choose B sc).2 c9 nw) (by omega) hk2 (by omega))
set_option maxRecDepth 20000 in
theorem cm_MO_passOne {E : En} {h : Hp} {m st nw sc : Nat} {c g : Nat → Int32} {B : Bu} {R : List (Nat × (Nat → Int32))} {ni U : Nat} (hM : MoOk h m st) (nd : (m :: st :: R.map Prod.fst).Nodup) (hG : Gd B nw sc ni U) (hU : U < 2000000000) : CR E m_MO_passOne [.ref m] (wL h ((m, c) :: (st, enc nw sc B g) :: R)) (none) (wL h ((m, c) :: (st, enc nw sc (P_day nw sc ni (0, B)).2 g) :: R)) := by
  refine ct_of rfl (by decide +kernel) (Nat.le_of_ble_eq_true rfl) ?_
  show G E m_MO_passOne 0 [(0, .ref m)] [] (wL h ((m, c) :: (st, enc nw sc B g) :: R)) 0 0 _ noX
  obtain ⟨k_m, r_m_0, k_st, l_st⟩ := id hM
  obtain ⟨hw, n6, hs, s8, h0, hni, n3, ⟨sd, hsd, hsx⟩, hop⟩ := id hG.1
  refine g_aload_n (pc := 0) d_MO_passOne_0 rfl 0 rfl ?_
  refine g_cV0 (pc := 1) (ci := 7) (As := []) d_MO_passOne_1 rfl mv_MO_beginDay st_MO_passOne_136 rfl rfl (by decide) rfl rfl (Nat.le_of_ble_eq_true rfl) k_m (cm_MO_beginDay hM nd hG) ?_
  refine g_iconst (pc := 4) (v := 0) d_MO_passOne_4 (by decide) ?_
  refine g_nameI (fun x_1 hx_1 => ?_)
  refine g_istore_n (pc := 5) (lv' := [(1, .int x_1), (0, .ref m)]) d_MO_passOne_5 rfl (by decide) rfl ?_
  subst hx_1
  exact lp_MO_passOne hM nd (ni + 1) 0 (0, P_trade sc (P_begin sc B)) (Nat.zero_le _) (Gd_trade (Gd_begin hG) hU) (by omega)
theorem P_sent_any (nw sc : Nat) : ∀ (n a b : Nat) (B : Bu), (P_sent nw sc n (a, B)).2 = (P_sent nw sc n (b, B)).2
  | 0, _, _, _ => rfl
  | n + 1, a, b, B => by
    rw [P_sent_S, P_sent_S]
    cases e : (P_choose B sc).1 with
    | none => rw [P_sent1_n (show (P_choose (a, B).2 sc).1 = none from e), P_sent1_n (show (P_choose (b, B).2 sc).1 = none from e)]; exact P_sent_any nw sc n _ _ _
    | some i => rw [P_sent1_s (show (P_choose (a, B).2 sc).1 = some i from e), P_sent1_s (show (P_choose (b, B).2 sc).1 = some i from e)]; exact P_sent_any nw sc n _ _ _
theorem lp_MO_passAll {E : En} {h : Hp} {m st nw sc : Nat} {c g : Nat → Int32} {R : List (Nat × (Nat → Int32))} {ni U days : Nat} {v0 : Int32} (hM : MoOk h m st) (nd : (m :: st :: R.map Prod.fst).Nodup) (hU : U + days ≤ 2000000000) : ∀ (d j : Nat) (q : Nat × Bu), j ≤ days → Gd q.2 nw sc ni (U + j) → days - j < d → G E m_MO_passAll 10 [(3, .int (nI j)), (2, .int v0), (0, .ref m), (1, .int (nI days))] [] (wL h ((m, c) :: (st, enc nw sc q.2 g) :: R)) 0 0 (fun v1 h1 => v1 = some (.int ((P_pass nw sc ni (days - j) q).2.1 11 - v0)) ∧ h1 = wL h ((m, c) :: (st, enc nw sc (P_pass nw sc ni (days - j) q).2 g) :: R)) noX := by
  obtain ⟨k_m, r_m_0, k_st, l_st⟩ := id hM
  intro d
  induction d with
  | zero => intros; omega
  | succ d ih =>
    intro j q hj hG hd
    obtain ⟨q1, B⟩ := q
    refine g_iload_n (pc := 10) d_MO_passAll_10 rfl 0 rfl ?_
    refine g_iload_n (pc := 11) d_MO_passAll_11 rfl 3 rfl ?_
    refine g_icmp_ge (pc := 12) (tgt := 25) d_MO_passAll_12 (by decide) (fun c_12 => ?_) (fun c_12 => ?_)
    · skip
      have e9 : j = days := by have := (nI_leI (by omega) (by omega)).mp c_12; omega
      refine g_aload_n (pc := 25) d_MO_passAll_25 rfl 2 rfl ?_
      refine g_getR (pc := 26) (ci := 7) (f := 0) (b := st) rfl r_m_0 d_MO_passAll_26 fl_MO_7 (by decide) k_m ?_
      refine g_bipush (pc := 29) (v := 11) d_MO_passAll_29 (by decide) ?_
      refine g_mI (pc := 31) (k := 11) d_MO_passAll_31 k_st l_st (by decide) nd ?_
      refine g_iload_n (pc := 32) d_MO_passAll_32 rfl 1 rfl ?_
      refine g_isub (pc := 33) d_MO_passAll_33 ?_
      refine g_iret (pc := 34) d_MO_passAll_34 rfl ?_
      rw [show days - j = 0 by omega]
      exact ⟨rfl, rfl⟩
    · skip
      have e9 : j < days := Nat.lt_of_not_le (fun z => c_12 ((nI_leI (by omega) (by omega)).mpr z))
      refine g_aload_n (pc := 15) d_MO_passAll_15 rfl 2 rfl ?_
      refine g_cV0 (pc := 16) (ci := 7) (As := []) d_MO_passAll_16 rfl mv_MO_passOne st_MO_passAll_145 rfl rfl (by decide) rfl rfl (Nat.le_of_ble_eq_true rfl) k_m (cm_MO_passOne hM nd hG (by omega)) ?_
      obtain ⟨x_1, hx_1⟩ : ∃ y : Int32, y = (nI j) + 1 := ⟨_, rfl⟩
      refine g_iinc (pc := 19) (w := 0) (v := x_1) (lv' := [(3, .int x_1), (2, .int v0), (0, .ref m), (1, .int (nI days))]) d_MO_passAll_19 rfl (by rw [hx_1]; rfl) (by decide) rfl ?_
      refine g_goto (pc := 22) (tgt := 10) d_MO_passAll_22 (by decide) ?_
      have e8 : x_1 = nI (j + 1) := by rw [hx_1]; exact nI_1 _
      clear hx_1
      subst e8
      refine g_perm [0, 1, 2, 3] rfl ?_
      rw [show days - j = (days - (j + 1)) + 1 by omega]
      refine g_h (h' := wL h ((m, c) :: (st, enc nw sc (P_day nw sc ni (q1, B)).2 g) :: R)) (by unfold P_day; rw [P_sent_any nw sc ni 0 q1]) ?_
      exact ih (j + 1) (P_day nw sc ni (q1, B)) (by omega) (Gd_day (U := U + j) hG (by omega)) (by omega)
set_option maxRecDepth 20000 in
theorem cm_MO_passAll {E : En} {h : Hp} {m st nw sc : Nat} {c g : Nat → Int32} {B : Bu} {R : List (Nat × (Nat → Int32))} {ni U : Nat} {days : Nat} (hM : MoOk h m st) (nd : (m :: st :: R.map Prod.fst).Nodup) (hG : Gd B nw sc ni U) (hU : U + days ≤ 2000000000) : CR E m_MO_passAll [.ref m, .int (nI days)] (wL h ((m, c) :: (st, enc nw sc B g) :: R)) (some (.int (nI (P_pass nw sc ni days (0, B)).1))) (wL h ((m, c) :: (st, enc nw sc (P_pass nw sc ni days (0, B)).2 g) :: R)) := by
  refine ct_of rfl (by decide +kernel) (Nat.le_of_ble_eq_true rfl) ?_
  show G E m_MO_passAll 0 [(0, .ref m), (1, .int (nI days))] [] (wL h ((m, c) :: (st, enc nw sc B g) :: R)) 0 0 _ noX
  obtain ⟨k_m, r_m_0, k_st, l_st⟩ := id hM
  obtain ⟨hw, n6, hs, s8, h0, hni, n3, ⟨sd, hsd, hsx⟩, hop⟩ := id hG.1
  refine g_aload_n (pc := 0) d_MO_passAll_0 rfl 0 rfl ?_
  refine g_getR (pc := 1) (ci := 7) (f := 0) (b := st) rfl r_m_0 d_MO_passAll_1 fl_MO_7 (by decide) k_m ?_
  refine g_bipush (pc := 4) (v := 11) d_MO_passAll_4 (by decide) ?_
  refine g_mI (pc := 6) (k := 11) d_MO_passAll_6 k_st l_st (by decide) nd ?_
  refine g_istore_n (pc := 7) (lv' := [(2, .int (B.1 11)), (0, .ref m), (1, .int (nI days))]) d_MO_passAll_7 rfl (by decide) rfl ?_
  refine g_iconst (pc := 8) (v := 0) d_MO_passAll_8 (by decide) ?_
  refine g_nameI (fun x_1 hx_1 => ?_)
  refine g_istore_n (pc := 9) (lv' := [(3, .int x_1), (2, .int (B.1 11)), (0, .ref m), (1, .int (nI days))]) d_MO_passAll_9 rfl (by decide) rfl ?_
  subst hx_1
  rw [← v_pass0 nw sc ni days B]
  exact lp_MO_passAll hM nd hU (days + 1) 0 (0, B) (Nat.zero_le _) hG (by omega)
theorem lp_MO_countOpen {E : En} {h : Hp} {m st nw sc : Nat} {c g : Nat → Int32} {B : Bu} {R : List (Nat × (Nat → Int32))} {ni U : Nat} (hM : MoOk h m st) (nd : (m :: st :: R.map Prod.fst).Nodup) (hG : Gd B nw sc ni U) : ∀ (d i : Nat), i ≤ sc → sc - i < d → G E m_MO_countOpen 4 [(2, .int (nI i)), (1, .int (nI (P_open B.2.2 i))), (0, .ref m)] [] (wL h ((m, c) :: (st, enc nw sc B g) :: R)) 0 0 (fun v1 h1 => v1 = some (.int (nI (P_open B.2.2 sc))) ∧ h1 = wL h ((m, c) :: (st, enc nw sc B g) :: R)) noX := by
  obtain ⟨k_m, r_m_0, k_st, l_st⟩ := id hM
  intro d
  induction d with
  | zero => intros; omega
  | succ d ih =>
    intro i hi hd
    obtain ⟨hw, n6, hs, s8, h0, hni, n3, ⟨sd, hsd, hsx⟩, hop⟩ := id hG.1
    refine g_iload_n (pc := 4) d_MO_countOpen_4 rfl 0 rfl ?_
    refine g_aload_n (pc := 5) d_MO_countOpen_5 rfl 2 rfl ?_
    refine g_getR (pc := 6) (ci := 7) (f := 0) (b := st) rfl r_m_0 d_MO_countOpen_6 fl_MO_7 (by decide) k_m ?_
    refine g_bipush (pc := 9) (v := 8) d_MO_countOpen_9 (by decide) ?_
    refine g_mI (pc := 11) (k := 8) d_MO_countOpen_11 k_st l_st (by decide) nd ?_
    refine g_icmp_ge (pc := 12) (tgt := 32) d_MO_countOpen_12 (by decide) (fun c_12 => ?_) (fun c_12 => ?_)
    · skip
      have e9 : i = sc := by rw [hs] at c_12; have := (nI_leI (by omega) (by omega)).mp c_12; omega
      refine g_iload_n (pc := 32) d_MO_countOpen_32 rfl 1 rfl ?_
      refine g_iret (pc := 33) d_MO_countOpen_33 rfl ?_
      rw [e9]
      exact ⟨rfl, rfl⟩
    · skip
      have e9 : i < sc := by rw [hs] at c_12; exact Nat.lt_of_not_le (fun z => c_12 ((nI_leI (by omega) (by omega)).mpr z))
      refine g_aload_n (pc := 15) d_MO_countOpen_15 rfl 2 rfl ?_
      refine g_iload_n (pc := 16) d_MO_countOpen_16 rfl 0 rfl ?_
      refine g_cV1 (pc := 17) (ci := 7) (As := [.int _]) d_MO_countOpen_17 rfl mv_MO_isOpenShop st_MO_countOpen_115 rfl rfl (by decide) rfl rfl (Nat.le_of_ble_eq_true rfl) k_m (cm_MO_isOpenShop hM nd n6 s8 (by first | assumption | omega | decide) (hG.op (by first | assumption | omega | decide))) ?_
      refine g_if_eq (pc := 20) (tgt := 26) d_MO_countOpen_20 (by decide) (fun c_20 => ?_) (fun c_20 => ?_)
      · skip
        obtain ⟨x_1, hx_1⟩ : ∃ y : Int32, y = (nI i) + 1 := ⟨_, rfl⟩
        refine g_iinc (pc := 26) (w := 0) (v := x_1) (lv' := [(2, .int x_1), (1, .int (nI (P_open B.2.2 i))), (0, .ref m)]) d_MO_countOpen_26 rfl (by rw [hx_1]; rfl) (by decide) rfl ?_
        refine g_goto (pc := 29) (tgt := 4) d_MO_countOpen_29 (by decide) ?_
        have e8 : x_1 = nI (i + 1) := by rw [hx_1]; exact nI_1 _
        clear hx_1
        subst e8
        rw [show P_open B.2.2 i = P_open B.2.2 (i + 1) from by rw [P_open, if_pos (Decidable.not_not.mp (of_decide_eq_false (bI_0.mp c_20)))]]
        refine g_perm [0, 1, 2] rfl ?_
        exact ih (i + 1) (by omega) (by omega)
      · skip
        obtain ⟨x_2, hx_2⟩ : ∃ y : Int32, y = (nI (P_open B.2.2 i)) + 1 := ⟨_, rfl⟩
        refine g_iinc (pc := 23) (w := 1) (v := x_2) (lv' := [(1, .int x_2), (2, .int (nI i)), (0, .ref m)]) d_MO_countOpen_23 rfl (by rw [hx_2]; rfl) (by decide) rfl ?_
        obtain ⟨x_3, hx_3⟩ : ∃ y : Int32, y = (nI i) + 1 := ⟨_, rfl⟩
        refine g_iinc (pc := 26) (w := 1) (v := x_3) (lv' := [(2, .int x_3), (1, .int x_2), (0, .ref m)]) d_MO_countOpen_26 rfl (by rw [hx_3]; rfl) (by decide) rfl ?_
        refine g_goto (pc := 29) (tgt := 4) d_MO_countOpen_29 (by decide) ?_
        have e8 : x_3 = nI (i + 1) := by rw [hx_3]; exact nI_1 _
        clear hx_3
        subst e8
        have e7 : x_2 = nI (P_open B.2.2 (i + 1)) := by rw [hx_2, P_open, if_neg (of_decide_eq_true (bI_n0 c_20))]; exact nI_1 _
        clear hx_2
        subst e7
        refine g_perm [0, 1, 2] rfl ?_
        exact ih (i + 1) (by omega) (by omega)
set_option maxRecDepth 20000 in
theorem cm_MO_countOpen {E : En} {h : Hp} {m st nw sc : Nat} {c g : Nat → Int32} {B : Bu} {R : List (Nat × (Nat → Int32))} {ni U : Nat} (hM : MoOk h m st) (nd : (m :: st :: R.map Prod.fst).Nodup) (hG : Gd B nw sc ni U) : CR E m_MO_countOpen [.ref m] (wL h ((m, c) :: (st, enc nw sc B g) :: R)) (some (.int (nI (P_open B.2.2 sc)))) (wL h ((m, c) :: (st, enc nw sc B g) :: R)) := by
  refine ct_of rfl (by decide +kernel) (Nat.le_of_ble_eq_true rfl) ?_
  show G E m_MO_countOpen 0 [(0, .ref m)] [] (wL h ((m, c) :: (st, enc nw sc B g) :: R)) 0 0 _ noX
  obtain ⟨k_m, r_m_0, k_st, l_st⟩ := id hM
  obtain ⟨hw, n6, hs, s8, h0, hni, n3, ⟨sd, hsd, hsx⟩, hop⟩ := id hG.1
  refine g_iconst (pc := 0) (v := 0) d_MO_countOpen_0 (by decide) ?_
  refine g_nameI (fun x_1 hx_1 => ?_)
  refine g_istore_n (pc := 1) (lv' := [(1, .int x_1), (0, .ref m)]) d_MO_countOpen_1 rfl (by decide) rfl ?_
  refine g_iconst (pc := 2) (v := 0) d_MO_countOpen_2 (by decide) ?_
  refine g_nameI (fun x_2 hx_2 => ?_)
  refine g_istore_n (pc := 3) (lv' := [(2, .int x_2), (1, .int x_1), (0, .ref m)]) d_MO_countOpen_3 rfl (by decide) rfl ?_
  subst hx_1
  subst hx_2
  exact lp_MO_countOpen hM nd hG (sc + 1) 0 (Nat.zero_le _) (by omega)
set_option maxRecDepth 20000 in
theorem cm_MO_canRepair {E : En} {h : Hp} {m st nw sc : Nat} {c g : Nat → Int32} {B : Bu} {R : List (Nat × (Nat → Int32))} {ni U : Nat} {i : Nat} (hM : MoOk h m st) (nd : (m :: st :: R.map Prod.fst).Nodup) (hG : Gd B nw sc ni U) (hi : i < sc) : CR E m_MO_canRepair [.ref m, .int (nI i)] (wL h ((m, c) :: (st, enc nw sc B g) :: R)) (some (.int (bI (M_canPay (B.2.2 i))))) (wL h ((m, c) :: (st, enc nw sc B g) :: R)) := by
  refine ct_of rfl (by decide +kernel) (Nat.le_of_ble_eq_true rfl) ?_
  show G E m_MO_canRepair 0 [(0, .ref m), (1, .int (nI i))] [] (wL h ((m, c) :: (st, enc nw sc B g) :: R)) 0 0 _ noX
  obtain ⟨k_m, r_m_0, k_st, l_st⟩ := id hM
  obtain ⟨hw, n6, hs, s8, h0, hni, n3, ⟨sd, hsd, hsx⟩, hop⟩ := id hG.1
  refine g_aload_n (pc := 0) d_MO_canRepair_0 rfl 0 rfl ?_
  refine g_iload_n (pc := 1) d_MO_canRepair_1 rfl 1 rfl ?_
  refine g_cV1 (pc := 2) (ci := 7) (As := [.int _]) d_MO_canRepair_2 rfl mv_MO_isOpenShop st_MO_canRepair_115 rfl rfl (by decide) rfl rfl (Nat.le_of_ble_eq_true rfl) k_m (cm_MO_isOpenShop hM nd n6 s8 (by first | assumption | omega | decide) (hG.op (by first | assumption | omega | decide))) ?_
  refine g_if_eq (pc := 5) (tgt := 23) d_MO_canRepair_5 (by decide) (fun c_5 => ?_) (fun c_5 => ?_)
  · skip
    refine g_iconst (pc := 23) (v := 0) d_MO_canRepair_23 (by decide) ?_
    refine g_zret (pc := 24) d_MO_canRepair_24 rfl (by first | rfl | exact nar_bI _) ?_
    refine ⟨?_, rfl⟩
    unfold M_canPay
    first | (have z := bI_0.mp c_5; rw [z]; rfl) | (have z := bI_n0 c_5; rw [z]; first | (rw [decide_eq_false (Int32.not_le.mpr c_16)]; rfl) | (rw [decide_eq_true (Int32.not_lt.mp c_16)]; rfl))
  · skip
    refine g_aload_n (pc := 8) d_MO_canRepair_8 rfl 0 rfl ?_
    refine g_iload_n (pc := 9) d_MO_canRepair_9 rfl 1 rfl ?_
    refine g_iconst (pc := 10) (v := 0) d_MO_canRepair_10 (by decide) ?_
    refine g_cV1 (pc := 11) (ci := 7) (As := [.int _, .int _]) d_MO_canRepair_11 rfl mv_MO_of st_MO_canRepair_69 rfl rfl (by decide) rfl rfl (Nat.le_of_ble_eq_true rfl) k_m (cm_MO_of (k := 0) hM nd n6 s8 (by first | assumption | omega | decide) (by decide)) ?_
    refine g_bipush (pc := 14) (v := 10) d_MO_canRepair_14 (by decide) ?_
    refine g_icmp_lt (pc := 16) (tgt := 23) d_MO_canRepair_16 (by decide) (fun c_16 => ?_) (fun c_16 => ?_)
    · skip
      refine g_iconst (pc := 23) (v := 0) d_MO_canRepair_23 (by decide) ?_
      refine g_zret (pc := 24) d_MO_canRepair_24 rfl (by first | rfl | exact nar_bI _) ?_
      refine ⟨?_, rfl⟩
      unfold M_canPay
      first | (have z := bI_0.mp c_5; rw [z]; rfl) | (have z := bI_n0 c_5; rw [z]; first | (rw [decide_eq_false (Int32.not_le.mpr c_16)]; rfl) | (rw [decide_eq_true (Int32.not_lt.mp c_16)]; rfl))
    · skip
      refine g_iconst (pc := 19) (v := 1) d_MO_canRepair_19 (by decide) ?_
      refine g_goto (pc := 20) (tgt := 24) d_MO_canRepair_20 (by decide) ?_
      refine g_zret (pc := 24) d_MO_canRepair_24 rfl (by first | rfl | exact nar_bI _) ?_
      refine ⟨?_, rfl⟩
      unfold M_canPay
      first | (have z := bI_0.mp c_5; rw [z]; rfl) | (have z := bI_n0 c_5; rw [z]; first | (rw [decide_eq_false (Int32.not_le.mpr c_16)]; rfl) | (rw [decide_eq_true (Int32.not_lt.mp c_16)]; rfl))
set_option maxRecDepth 20000 in
theorem cm_MO_repairNow {E : En} {h : Hp} {m st nw sc : Nat} {c g : Nat → Int32} {B : Bu} {R : List (Nat × (Nat → Int32))} {i : Nat} (hM : MoOk h m st) (nd : (m :: st :: R.map Prod.fst).Nodup) (n6 : nw ≤ 6) (s8 : sc ≤ 8) (hi : i < sc) : CR E m_MO_repairNow [.ref m, .int (nI i)] (wL h ((m, c) :: (st, enc nw sc B g) :: R)) (some (.int (B.2.2 i 0 - 10))) (wL h ((m, c) :: (st, enc nw sc (P_repair B i) g) :: R)) := by
  refine ct_of rfl (by decide +kernel) (Nat.le_of_ble_eq_true rfl) ?_
  show G E m_MO_repairNow 0 [(0, .ref m), (1, .int (nI i))] [] (wL h ((m, c) :: (st, enc nw sc B g) :: R)) 0 0 _ noX
  obtain ⟨k_m, r_m_0, k_st, l_st⟩ := id hM
  refine g_aload_n (pc := 0) d_MO_repairNow_0 rfl 0 rfl ?_
  refine g_iload_n (pc := 1) d_MO_repairNow_1 rfl 1 rfl ?_
  refine g_iconst (pc := 2) (v := 1) d_MO_repairNow_2 (by decide) ?_
  refine g_iconst (pc := 3) (v := 0) d_MO_repairNow_3 (by decide) ?_
  refine g_cV0 (pc := 4) (ci := 7) (As := [.int _, .int _, .int _]) d_MO_repairNow_4 rfl mv_MO_put st_MO_repairNow_65 rfl rfl (by decide) rfl rfl (Nat.le_of_ble_eq_true rfl) k_m (cm_MO_put (k := 1) hM nd n6 s8 (by first | assumption | omega | decide) (by decide)) ?_
  refine g_aload_n (pc := 7) d_MO_repairNow_7 rfl 0 rfl ?_
  refine g_iload_n (pc := 8) d_MO_repairNow_8 rfl 1 rfl ?_
  refine g_iconst (pc := 9) (v := 2) d_MO_repairNow_9 (by decide) ?_
  refine g_iconst (pc := 10) (v := 0) d_MO_repairNow_10 (by decide) ?_
  refine g_cV0 (pc := 11) (ci := 7) (As := [.int _, .int _, .int _]) d_MO_repairNow_11 rfl mv_MO_put st_MO_repairNow_65 rfl rfl (by decide) rfl rfl (Nat.le_of_ble_eq_true rfl) k_m (cm_MO_put (k := 2) hM nd n6 s8 (by first | assumption | omega | decide) (by decide)) ?_
  refine g_aload_n (pc := 14) d_MO_repairNow_14 rfl 0 rfl ?_
  refine g_iload_n (pc := 15) d_MO_repairNow_15 rfl 1 rfl ?_
  refine g_iconst (pc := 16) (v := 0) d_MO_repairNow_16 (by decide) ?_
  refine g_bipush (pc := 17) (v := (-10)) d_MO_repairNow_17 (by decide) ?_
  refine g_cV0 (pc := 19) (ci := 7) (As := [.int _, .int _, .int _]) d_MO_repairNow_19 rfl mv_MO_addTo st_MO_repairNow_96 rfl rfl (by decide) rfl rfl (Nat.le_of_ble_eq_true rfl) k_m (cm_MO_addTo (k := 0) hM nd n6 s8 (by first | assumption | omega | decide) (by decide)) ?_
  refine g_h (h' := wL h ((m, c) :: (st, enc nw sc (sS B i (u1 (u1 (u1 (B.2.2 i) 1 0) 2 0) 0 (B.2.2 i 0 + -10))) g) :: R)) (by simp only [sS_sS, sS_sC, sC_sC, sS_i, sS_1, sS_21, sC_1, sC_2]; rfl) ?_
  refine g_aload_n (pc := 22) d_MO_repairNow_22 rfl 0 rfl ?_
  refine g_getR (pc := 23) (ci := 7) (f := 0) (b := st) rfl r_m_0 d_MO_repairNow_23 fl_MO_7 (by decide) k_m ?_
  refine g_bipush (pc := 26) (v := 10) d_MO_repairNow_26 (by decide) ?_
  refine g_dup2 (pc := 28) d_MO_repairNow_28 rfl rfl ?_
  refine g_mI (pc := 29) (k := 10) d_MO_repairNow_29 k_st l_st (by decide) nd ?_
  refine g_bipush (pc := 30) (v := 10) d_MO_repairNow_30 (by decide) ?_
  refine g_iadd (pc := 32) d_MO_repairNow_32 ?_
  refine g_mIS (pc := 33) (k := 10) d_MO_repairNow_33 k_st l_st (by decide) nd ?_
  refine g_aload_n (pc := 34) d_MO_repairNow_34 rfl 0 rfl ?_
  refine g_iload_n (pc := 35) d_MO_repairNow_35 rfl 1 rfl ?_
  refine g_iconst (pc := 36) (v := 0) d_MO_repairNow_36 (by decide) ?_
  refine g_cV1 (pc := 37) (ci := 7) (As := [.int _, .int _]) d_MO_repairNow_37 rfl mv_MO_of st_MO_repairNow_69 rfl rfl (by decide) rfl rfl (Nat.le_of_ble_eq_true rfl) k_m (cm_MO_of (k := 0) hM nd n6 s8 (by first | assumption | omega | decide) (by decide)) ?_
  refine g_iret (pc := 40) d_MO_repairNow_40 rfl ?_
  simp only [sS_sS, sS_sC, sC_sC, sS_i, sS_1, sS_21, sC_1, sC_2]
  unfold P_repair
  rw [i_sub]
  exact ⟨rfl, rfl⟩
set_option maxRecDepth 20000 in
theorem cm_MO_complainNow {E : En} {h : Hp} {m st nw sc : Nat} {c g : Nat → Int32} {B : Bu} {R : List (Nat × (Nat → Int32))} {i : Nat} (hM : MoOk h m st) (nd : (m :: st :: R.map Prod.fst).Nodup) (n6 : nw ≤ 6) (s8 : sc ≤ 8) (hi : i < sc) : CR E m_MO_complainNow [.ref m, .int (nI i)] (wL h ((m, c) :: (st, enc nw sc B g) :: R)) (some (.int (B.2.2 i 8 + 1))) (wL h ((m, c) :: (st, enc nw sc (sS B i (u1 (B.2.2 i) 8 (B.2.2 i 8 + 1))) g) :: R)) := by
  refine ct_of rfl (by decide +kernel) (Nat.le_of_ble_eq_true rfl) ?_
  show G E m_MO_complainNow 0 [(0, .ref m), (1, .int (nI i))] [] (wL h ((m, c) :: (st, enc nw sc B g) :: R)) 0 0 _ noX
  obtain ⟨k_m, r_m_0, k_st, l_st⟩ := id hM
  refine g_aload_n (pc := 0) d_MO_complainNow_0 rfl 0 rfl ?_
  refine g_iload_n (pc := 1) d_MO_complainNow_1 rfl 1 rfl ?_
  refine g_bipush (pc := 2) (v := 8) d_MO_complainNow_2 (by decide) ?_
  refine g_iconst (pc := 4) (v := 1) d_MO_complainNow_4 (by decide) ?_
  refine g_cV0 (pc := 5) (ci := 7) (As := [.int _, .int _, .int _]) d_MO_complainNow_5 rfl mv_MO_addTo st_MO_complainNow_96 rfl rfl (by decide) rfl rfl (Nat.le_of_ble_eq_true rfl) k_m (cm_MO_addTo (k := 8) hM nd n6 s8 (by first | assumption | omega | decide) (by decide)) ?_
  refine g_aload_n (pc := 8) d_MO_complainNow_8 rfl 0 rfl ?_
  refine g_iload_n (pc := 9) d_MO_complainNow_9 rfl 1 rfl ?_
  refine g_bipush (pc := 10) (v := 8) d_MO_complainNow_10 (by decide) ?_
  refine g_cV1 (pc := 12) (ci := 7) (As := [.int _, .int _]) d_MO_complainNow_12 rfl mv_MO_of st_MO_complainNow_69 rfl rfl (by decide) rfl rfl (Nat.le_of_ble_eq_true rfl) k_m (cm_MO_of (k := 8) hM nd n6 s8 (by first | assumption | omega | decide) (by decide)) ?_
  refine g_iret (pc := 15) d_MO_complainNow_15 rfl ?_
  rw [sS_i]
  exact ⟨rfl, rfl⟩
set_option maxRecDepth 20000 in
theorem cm_MO_reopenNow {E : En} {h : Hp} {m st nw sc : Nat} {c g : Nat → Int32} {B : Bu} {R : List (Nat × (Nat → Int32))} {ni U : Nat} {i : Nat} (hM : MoOk h m st) (nd : (m :: st :: R.map Prod.fst).Nodup) (hG : Gd B nw sc ni U) (hi : i < sc) : CR E m_MO_reopenNow [.ref m, .int (nI i)] (wL h ((m, c) :: (st, enc nw sc B g) :: R)) (some (.int (nI (P_open (sS B i (M_open (B.2.2 i))).2.2 sc)))) (wL h ((m, c) :: (st, enc nw sc (sS B i (M_open (B.2.2 i))) g) :: R)) := by
  refine ct_of rfl (by decide +kernel) (Nat.le_of_ble_eq_true rfl) ?_
  show G E m_MO_reopenNow 0 [(0, .ref m), (1, .int (nI i))] [] (wL h ((m, c) :: (st, enc nw sc B g) :: R)) 0 0 _ noX
  obtain ⟨k_m, r_m_0, k_st, l_st⟩ := id hM
  obtain ⟨hw, n6, hs, s8, h0, hni, n3, ⟨sd, hsd, hsx⟩, hop⟩ := id hG.1
  refine g_aload_n (pc := 0) d_MO_reopenNow_0 rfl 0 rfl ?_
  refine g_iload_n (pc := 1) d_MO_reopenNow_1 rfl 1 rfl ?_
  refine g_bipush (pc := 2) (v := 12) d_MO_reopenNow_2 (by decide) ?_
  refine g_iconst (pc := 4) (v := 1) d_MO_reopenNow_4 (by decide) ?_
  refine g_cV0 (pc := 5) (ci := 7) (As := [.int _, .int _, .int _]) d_MO_reopenNow_5 rfl mv_MO_put st_MO_reopenNow_65 rfl rfl (by decide) rfl rfl (Nat.le_of_ble_eq_true rfl) k_m (cm_MO_put (k := 12) hM nd n6 s8 (by first | assumption | omega | decide) (by decide)) ?_
  refine g_aload_n (pc := 8) d_MO_reopenNow_8 rfl 0 rfl ?_
  refine g_iload_n (pc := 9) d_MO_reopenNow_9 rfl 1 rfl ?_
  refine g_bipush (pc := 10) (v := 9) d_MO_reopenNow_10 (by decide) ?_
  refine g_iconst (pc := 12) (v := 0) d_MO_reopenNow_12 (by decide) ?_
  refine g_cV0 (pc := 13) (ci := 7) (As := [.int _, .int _, .int _]) d_MO_reopenNow_13 rfl mv_MO_put st_MO_reopenNow_65 rfl rfl (by decide) rfl rfl (Nat.le_of_ble_eq_true rfl) k_m (cm_MO_put (k := 9) hM nd n6 s8 (by first | assumption | omega | decide) (by decide)) ?_
  refine g_h (h' := wL h ((m, c) :: (st, enc nw sc (sS B i (M_open (B.2.2 i))) g) :: R)) (by simp only [sS_sS, sS_sC, sC_sC, sS_i, sS_1, sS_21, sC_1, sC_2]; rfl) ?_
  refine g_aload_n (pc := 16) d_MO_reopenNow_16 rfl 0 rfl ?_
  refine g_cV1 (pc := 17) (ci := 7) (As := []) d_MO_reopenNow_17 rfl mv_MO_countOpen st_MO_reopenNow_148 rfl rfl (by decide) rfl rfl (Nat.le_of_ble_eq_true rfl) k_m (cm_MO_countOpen hM nd (Gd_sS hG (Sg_open (hG.sg hi)))) ?_
  refine g_iret (pc := 20) d_MO_reopenNow_20 rfl ?_
  exact ⟨rfl, rfl⟩
theorem lp_MO_rankOf {E : En} {h : Hp} {m st nw sc : Nat} {c g : Nat → Int32} {B : Bu} {R : List (Nat × (Nat → Int32))} {ni U : Nat} {a : Nat} (hM : MoOk h m st) (nd : (m :: st :: R.map Prod.fst).Nodup) (hG : Gd B nw sc ni U) (hU : U < 2000000000) (ha : a < sc) : ∀ (d i : Nat), i ≤ sc → sc - i < d → G E m_MO_rankOf 4 [(3, .int (nI i)), (2, .int (nI (P_rank B.2.2 a i))), (0, .ref m), (1, .int (nI a))] [] (wL h ((m, c) :: (st, enc nw sc B g) :: R)) 0 0 (fun v1 h1 => v1 = some (.int (nI (P_rank B.2.2 a sc))) ∧ h1 = wL h ((m, c) :: (st, enc nw sc B g) :: R)) noX := by
  obtain ⟨k_m, r_m_0, k_st, l_st⟩ := id hM
  intro d
  induction d with
  | zero => intros; omega
  | succ d ih =>
    intro i hi hd
    obtain ⟨hw, n6, hs, s8, h0, hni, n3, ⟨sd, hsd, hsx⟩, hop⟩ := id hG.1
    refine g_iload_n (pc := 4) d_MO_rankOf_4 rfl 0 rfl ?_
    refine g_aload_n (pc := 5) d_MO_rankOf_5 rfl 2 rfl ?_
    refine g_getR (pc := 6) (ci := 7) (f := 0) (b := st) rfl r_m_0 d_MO_rankOf_6 fl_MO_7 (by decide) k_m ?_
    refine g_bipush (pc := 9) (v := 8) d_MO_rankOf_9 (by decide) ?_
    refine g_mI (pc := 11) (k := 8) d_MO_rankOf_11 k_st l_st (by decide) nd ?_
    refine g_icmp_ge (pc := 12) (tgt := 56) d_MO_rankOf_12 (by decide) (fun c_12 => ?_) (fun c_12 => ?_)
    · skip
      have e9 : i = sc := by rw [hs] at c_12; have := (nI_leI (by omega) (by omega)).mp c_12; omega
      refine g_iload_n (pc := 56) d_MO_rankOf_56 rfl 1 rfl ?_
      refine g_iret (pc := 57) d_MO_rankOf_57 rfl ?_
      rw [e9]
      exact ⟨rfl, rfl⟩
    · skip
      have e9 : i < sc := by rw [hs] at c_12; exact Nat.lt_of_not_le (fun z => c_12 ((nI_leI (by omega) (by omega)).mpr z))
      refine g_aload_n (pc := 15) d_MO_rankOf_15 rfl 2 rfl ?_
      refine g_iload_n (pc := 16) d_MO_rankOf_16 rfl 0 rfl ?_
      refine g_bipush (pc := 17) (v := 8) d_MO_rankOf_17 (by decide) ?_
      refine g_cV1 (pc := 19) (ci := 7) (As := [.int _, .int _]) d_MO_rankOf_19 rfl mv_MO_of st_MO_rankOf_69 rfl rfl (by decide) rfl rfl (Nat.le_of_ble_eq_true rfl) k_m (cm_MO_of (k := 8) hM nd n6 s8 (by first | assumption | omega | decide) (by decide)) ?_
      refine g_aload_n (pc := 22) d_MO_rankOf_22 rfl 2 rfl ?_
      refine g_iload_n (pc := 23) d_MO_rankOf_23 rfl 3 rfl ?_
      refine g_bipush (pc := 24) (v := 8) d_MO_rankOf_24 (by decide) ?_
      refine g_cV1 (pc := 26) (ci := 7) (As := [.int _, .int _]) d_MO_rankOf_26 rfl mv_MO_of st_MO_rankOf_69 rfl rfl (by decide) rfl rfl (Nat.le_of_ble_eq_true rfl) k_m (cm_MO_of (k := 8) hM nd n6 s8 (by first | assumption | omega | decide) (by decide)) ?_
      refine g_isub (pc := 29) d_MO_rankOf_29 ?_
      refine g_istore (pc := 30) (lv' := [(4, .int (B.2.2 i 8 - B.2.2 a 8)), (3, .int (nI i)), (2, .int (nI (P_rank B.2.2 a i))), (0, .ref m), (1, .int (nI a))]) d_MO_rankOf_30 (by decide) rfl ?_
      refine g_iload (pc := 32) d_MO_rankOf_32 0 rfl ?_
      refine g_if_gt (pc := 34) (tgt := 47) d_MO_rankOf_34 (by decide) (fun c_34 => ?_) (fun c_34 => ?_)
      · skip
        obtain ⟨x_1, hx_1⟩ : ∃ y : Int32, y = (nI (P_rank B.2.2 a i)) + 1 := ⟨_, rfl⟩
        refine g_iinc (pc := 47) (w := 2) (v := x_1) (lv' := [(2, .int x_1), (4, .int (B.2.2 i 8 - B.2.2 a 8)), (3, .int (nI i)), (0, .ref m), (1, .int (nI a))]) d_MO_rankOf_47 rfl (by rw [hx_1]; rfl) (by decide) rfl ?_
        obtain ⟨x_2, hx_2⟩ : ∃ y : Int32, y = (nI i) + 1 := ⟨_, rfl⟩
        refine g_iinc (pc := 50) (w := 2) (v := x_2) (lv' := [(3, .int x_2), (2, .int x_1), (4, .int (B.2.2 i 8 - B.2.2 a 8)), (0, .ref m), (1, .int (nI a))]) d_MO_rankOf_50 rfl (by rw [hx_2]; rfl) (by decide) rfl ?_
        refine g_goto (pc := 53) (tgt := 4) d_MO_rankOf_53 (by decide) ?_
        have e8 : x_2 = nI (i + 1) := by rw [hx_2]; exact nI_1 _
        clear hx_2
        subst e8
        have f1 := hG.c0 ha
        have f2 := hG.c0 e9
        have f3 : (B.2.2 i 8 - B.2.2 a 8).toInt = (B.2.2 i 8).toInt - (B.2.2 a 8).toInt := i_subI (by omega) (by omega)
        have e7 : x_1 = nI (P_rank B.2.2 a (i + 1)) := by
          rw [hx_1, P_rank, if_pos ?_]
          · exact nI_1 _
          · first
            | (refine Or.inl ((i_lt _ _).mpr ?_); have := (i_lt _ _).mp c_34; rw [i_0, f3] at this; omega)
            | (refine Or.inr ⟨Int32.toInt_inj.mp ?_, Nat.lt_of_not_le fun z => c_44 ((nI_leI (by omega) (by omega)).mpr z)⟩; have := congrArg Int32.toInt c_39; rw [f3, i_0] at this; omega)
        clear hx_1
        subst e7
        refine g_perm [0, 1, 3, 4] rfl ?_
        exact ih (i + 1) (by omega) (by omega)
      · skip
        refine g_iload (pc := 37) d_MO_rankOf_37 0 rfl ?_
        refine g_if_ne (pc := 39) (tgt := 50) d_MO_rankOf_39 (by decide) (fun c_39 => ?_) (fun c_39 => ?_)
        · skip
          obtain ⟨x_3, hx_3⟩ : ∃ y : Int32, y = (nI i) + 1 := ⟨_, rfl⟩
          refine g_iinc (pc := 50) (w := 1) (v := x_3) (lv' := [(3, .int x_3), (4, .int (B.2.2 i 8 - B.2.2 a 8)), (2, .int (nI (P_rank B.2.2 a i))), (0, .ref m), (1, .int (nI a))]) d_MO_rankOf_50 rfl (by rw [hx_3]; rfl) (by decide) rfl ?_
          refine g_goto (pc := 53) (tgt := 4) d_MO_rankOf_53 (by decide) ?_
          have e8 : x_3 = nI (i + 1) := by rw [hx_3]; exact nI_1 _
          clear hx_3
          subst e8
          have f1 := hG.c0 ha
          have f2 := hG.c0 e9
          have f3 : (B.2.2 i 8 - B.2.2 a 8).toInt = (B.2.2 i 8).toInt - (B.2.2 a 8).toInt := i_subI (by omega) (by omega)
          rw [show P_rank B.2.2 a i = P_rank B.2.2 a (i + 1) from by
            rw [P_rank, if_neg ?_]
            rintro (z | ⟨z1, z2⟩)
            · refine c_34 ((i_lt _ _).mpr ?_); have := (i_lt _ _).mp z; rw [i_0, f3]; omega
            · first | (refine c_39 (Int32.toInt_inj.mp ?_); rw [f3, z1, i_0]; omega) | exact absurd ((nI_leI (by omega) (by omega)).mp c_44) (by omega)]
          refine g_perm [0, 2, 3, 4] rfl ?_
          exact ih (i + 1) (by omega) (by omega)
        · skip
          refine g_iload_n (pc := 42) d_MO_rankOf_42 rfl 1 rfl ?_
          refine g_iload_n (pc := 43) d_MO_rankOf_43 rfl 4 rfl ?_
          refine g_icmp_ge (pc := 44) (tgt := 50) d_MO_rankOf_44 (by decide) (fun c_44 => ?_) (fun c_44 => ?_)
          · skip
            obtain ⟨x_4, hx_4⟩ : ∃ y : Int32, y = (nI i) + 1 := ⟨_, rfl⟩
            refine g_iinc (pc := 50) (w := 1) (v := x_4) (lv' := [(3, .int x_4), (4, .int (B.2.2 i 8 - B.2.2 a 8)), (2, .int (nI (P_rank B.2.2 a i))), (0, .ref m), (1, .int (nI a))]) d_MO_rankOf_50 rfl (by rw [hx_4]; rfl) (by decide) rfl ?_
            refine g_goto (pc := 53) (tgt := 4) d_MO_rankOf_53 (by decide) ?_
            have e8 : x_4 = nI (i + 1) := by rw [hx_4]; exact nI_1 _
            clear hx_4
            subst e8
            have f1 := hG.c0 ha
            have f2 := hG.c0 e9
            have f3 : (B.2.2 i 8 - B.2.2 a 8).toInt = (B.2.2 i 8).toInt - (B.2.2 a 8).toInt := i_subI (by omega) (by omega)
            rw [show P_rank B.2.2 a i = P_rank B.2.2 a (i + 1) from by
              rw [P_rank, if_neg ?_]
              rintro (z | ⟨z1, z2⟩)
              · refine c_34 ((i_lt _ _).mpr ?_); have := (i_lt _ _).mp z; rw [i_0, f3]; omega
              · first | (refine c_39 (Int32.toInt_inj.mp ?_); rw [f3, z1, i_0]; omega) | exact absurd ((nI_leI (by omega) (by omega)).mp c_44) (by omega)]
            refine g_perm [0, 2, 3, 4] rfl ?_
            exact ih (i + 1) (by omega) (by omega)
          · skip
            obtain ⟨x_5, hx_5⟩ : ∃ y : Int32, y = (nI (P_rank B.2.2 a i)) + 1 := ⟨_, rfl⟩
            refine g_iinc (pc := 47) (w := 2) (v := x_5) (lv' := [(2, .int x_5), (4, .int (B.2.2 i 8 - B.2.2 a 8)), (3, .int (nI i)), (0, .ref m), (1, .int (nI a))]) d_MO_rankOf_47 rfl (by rw [hx_5]; rfl) (by decide) rfl ?_
            obtain ⟨x_6, hx_6⟩ : ∃ y : Int32, y = (nI i) + 1 := ⟨_, rfl⟩
            refine g_iinc (pc := 50) (w := 2) (v := x_6) (lv' := [(3, .int x_6), (2, .int x_5), (4, .int (B.2.2 i 8 - B.2.2 a 8)), (0, .ref m), (1, .int (nI a))]) d_MO_rankOf_50 rfl (by rw [hx_6]; rfl) (by decide) rfl ?_
            refine g_goto (pc := 53) (tgt := 4) d_MO_rankOf_53 (by decide) ?_
            have e8 : x_6 = nI (i + 1) := by rw [hx_6]; exact nI_1 _
            clear hx_6
            subst e8
            have f1 := hG.c0 ha
            have f2 := hG.c0 e9
            have f3 : (B.2.2 i 8 - B.2.2 a 8).toInt = (B.2.2 i 8).toInt - (B.2.2 a 8).toInt := i_subI (by omega) (by omega)
            have e7 : x_5 = nI (P_rank B.2.2 a (i + 1)) := by
              rw [hx_5, P_rank, if_pos ?_]
              · exact nI_1 _
              · first
                | (refine Or.inl ((i_lt _ _).mpr ?_); have := (i_lt _ _).mp c_34; rw [i_0, f3] at this; omega)
                | (refine Or.inr ⟨Int32.toInt_inj.mp ?_, Nat.lt_of_not_le fun z => c_44 ((nI_leI (by omega) (by omega)).mpr z)⟩; have := congrArg Int32.toInt c_39; rw [f3, i_0] at this; omega)
            clear hx_5
            subst e7
            refine g_perm [0, 1, 3, 4] rfl ?_
            exact ih (i + 1) (by omega) (by omega)
set_option maxRecDepth 20000 in
theorem cm_MO_rankOf {E : En} {h : Hp} {m st nw sc : Nat} {c g : Nat → Int32} {B : Bu} {R : List (Nat × (Nat → Int32))} {ni U : Nat} {a : Nat} (hM : MoOk h m st) (nd : (m :: st :: R.map Prod.fst).Nodup) (hG : Gd B nw sc ni U) (hU : U < 2000000000) (ha : a < sc) : CR E m_MO_rankOf [.ref m, .int (nI a)] (wL h ((m, c) :: (st, enc nw sc B g) :: R)) (some (.int (nI (P_rank B.2.2 a sc)))) (wL h ((m, c) :: (st, enc nw sc B g) :: R)) := by
  refine ct_of rfl (by decide +kernel) (Nat.le_of_ble_eq_true rfl) ?_
  show G E m_MO_rankOf 0 [(0, .ref m), (1, .int (nI a))] [] (wL h ((m, c) :: (st, enc nw sc B g) :: R)) 0 0 _ noX
  obtain ⟨k_m, r_m_0, k_st, l_st⟩ := id hM
  obtain ⟨hw, n6, hs, s8, h0, hni, n3, ⟨sd, hsd, hsx⟩, hop⟩ := id hG.1
  refine g_iconst (pc := 0) (v := 0) d_MO_rankOf_0 (by decide) ?_
  refine g_nameI (fun x_1 hx_1 => ?_)
  refine g_istore_n (pc := 1) (lv' := [(2, .int x_1), (0, .ref m), (1, .int (nI a))]) d_MO_rankOf_1 rfl (by decide) rfl ?_
  refine g_iconst (pc := 2) (v := 0) d_MO_rankOf_2 (by decide) ?_
  refine g_nameI (fun x_2 hx_2 => ?_)
  refine g_istore_n (pc := 3) (lv' := [(3, .int x_2), (2, .int x_1), (0, .ref m), (1, .int (nI a))]) d_MO_rankOf_3 rfl (by decide) rfl ?_
  subst hx_1
  subst hx_2
  exact lp_MO_rankOf hM nd hG hU ha (sc + 1) 0 (Nat.zero_le _) (by omega)
