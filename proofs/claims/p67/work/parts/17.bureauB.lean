def P_worst (c w s : Nat → Int32) : Nat → Nat
  | 0 => 0
  | n + 1 => if M_exc c s (w (n + 1)) ≤ M_exc c s (w (P_worst c w s n)) then P_worst c w s n else n + 1
theorem P_worst_le (c w s : Nat → Int32) : ∀ n, P_worst c w s n ≤ n
  | 0 => Nat.le_refl _
  | n + 1 => by
    rw [P_worst]
    split
    · exact Nat.le_succ_of_le (P_worst_le c w s n)
    · exact Nat.le_refl _
theorem lp_BU_worstWeightFor {E : En} {h : Hp} {b a nw : Nat} {B : Bu} (hB : BuOk h b) (ha : a < 8) (hw : B.1 7 = nI nw) (hn : nw ≤ 6) : ∀ (d i t : Nat), (i = 0 ∨ i + 1 ≤ nw) → t = P_worst B.1 B.2.1 (B.2.2 a) i → nw - i < d → G E m_BU_worstWeightFor 4 [(3, .int (nI (i + 1))), (2, .int (nI t)), (0, .ref b), (1, .ref (sh h b a))] [] (wB h b B) 0 0 (fun v h' => v = some (.int (nI (P_worst B.1 B.2.1 (B.2.2 a) (nw - 1)))) ∧ h' = wB h b B) noX := by
  intro d
  induction d with
  | zero => intros; omega
  | succ d ih =>
    intro i t hi ht hd
    refine g_iload_n (pc := 4) d_BU_worstWeightFor_4 rfl 0 rfl ?_
    refine g_aload_n (pc := 5) d_BU_worstWeightFor_5 rfl 2 rfl ?_
    refine g_bgI (pc := 6) (f := 7) rfl d_BU_worstWeightFor_6 fl_BU_53 hB ?_
    refine g_icmp_ge (pc := 9) (tgt := 45) d_BU_worstWeightFor_9 (by decide) (fun c_9 => ?_) (fun c_9 => ?_)
    · skip
      have e9 : nw ≤ i + 1 := by rw [hw] at c_9; exact (nI_leI (by omega) (by omega)).mp c_9
      refine g_iload_n (pc := 45) d_BU_worstWeightFor_45 rfl 1 rfl ?_
      refine g_iret (pc := 46) d_BU_worstWeightFor_46 rfl ?_
      refine ⟨?_, rfl⟩
      rw [ht]
      have e6 : i = nw - 1 := by omega
      rw [e6]
    · skip
      have e9 : i + 1 < nw := by rw [hw] at c_9; exact Nat.lt_of_not_le (fun z => c_9 ((nI_leI (by omega) (by omega)).mpr z))
      refine g_aload_n (pc := 12) d_BU_worstWeightFor_12 rfl 2 rfl ?_
      refine g_aload_n (pc := 13) d_BU_worstWeightFor_13 rfl 3 rfl ?_
      refine g_aload_n (pc := 14) d_BU_worstWeightFor_14 rfl 2 rfl ?_
      refine g_bgW (pc := 15) d_BU_worstWeightFor_15 fl_BU_9 hB ?_
      refine g_iload_n (pc := 18) d_BU_worstWeightFor_18 rfl 0 rfl ?_
      refine g_bwl (pc := 19) d_BU_worstWeightFor_19 hB (by first | assumption | omega) ?_
      refine g_cV1 (pc := 20) (ci := 4) (As := [.ref _, .int _]) d_BU_worstWeightFor_20 rfl mv_BU_excessFor st_BU_worstWeightFor_83 rfl rfl (by decide) rfl rfl (Nat.le_of_ble_eq_true rfl) hB.1 (cb_excessFor hB (by first | assumption | omega)) ?_
      refine g_aload_n (pc := 23) d_BU_worstWeightFor_23 rfl 2 rfl ?_
      refine g_aload_n (pc := 24) d_BU_worstWeightFor_24 rfl 3 rfl ?_
      refine g_aload_n (pc := 25) d_BU_worstWeightFor_25 rfl 2 rfl ?_
      refine g_bgW (pc := 26) d_BU_worstWeightFor_26 fl_BU_9 hB ?_
      have e7 : t ≤ i := by rw [ht]; exact P_worst_le B.1 B.2.1 (B.2.2 a) i
      refine g_iload_n (pc := 29) d_BU_worstWeightFor_29 rfl 1 rfl ?_
      refine g_bwl (pc := 30) d_BU_worstWeightFor_30 hB (by first | assumption | omega) ?_
      refine g_cV1 (pc := 31) (ci := 4) (As := [.ref _, .int _]) d_BU_worstWeightFor_31 rfl mv_BU_excessFor st_BU_worstWeightFor_83 rfl rfl (by decide) rfl rfl (Nat.le_of_ble_eq_true rfl) hB.1 (cb_excessFor hB (by first | assumption | omega)) ?_
      refine g_icmp_le (pc := 34) (tgt := 39) d_BU_worstWeightFor_34 (by decide) (fun c_34 => ?_) (fun c_34 => ?_)
      · skip
        obtain ⟨x_1, hx_1⟩ : ∃ y : Int32, y = (nI (i + 1)) + 1 := ⟨_, rfl⟩
        refine g_iinc (pc := 39) (w := 0) (v := x_1) (lv' := [(3, .int x_1), (2, .int (nI t)), (0, .ref b), (1, .ref (sh h b a))]) d_BU_worstWeightFor_39 rfl (by rw [hx_1]; rfl) (by decide) rfl ?_
        refine g_goto (pc := 42) (tgt := 4) d_BU_worstWeightFor_42 (by decide) ?_
        have e8 : x_1 = nI (i + 1 + 1) := by rw [hx_1]; exact nI_1 _
        clear hx_1
        subst e8
        refine g_perm [0, 1, 2, 3] rfl ?_
        refine ih (i + 1) _ (by omega) ?_ (by omega)
        rw [P_worst, ← ht]
        first | (rw [if_pos c_34]; done) | (rw [if_neg c_34]; done)
      · skip
        refine g_iload_n (pc := 37) d_BU_worstWeightFor_37 rfl 0 rfl ?_
        refine g_istore_n (pc := 38) (lv' := [(2, .int (nI (i + 1))), (3, .int (nI (i + 1))), (0, .ref b), (1, .ref (sh h b a))]) d_BU_worstWeightFor_38 rfl (by decide) rfl ?_
        obtain ⟨x_2, hx_2⟩ : ∃ y : Int32, y = (nI (i + 1)) + 1 := ⟨_, rfl⟩
        refine g_iinc (pc := 39) (w := 1) (v := x_2) (lv' := [(3, .int x_2), (2, .int (nI (i + 1))), (0, .ref b), (1, .ref (sh h b a))]) d_BU_worstWeightFor_39 rfl (by rw [hx_2]; rfl) (by decide) rfl ?_
        refine g_goto (pc := 42) (tgt := 4) d_BU_worstWeightFor_42 (by decide) ?_
        have e8 : x_2 = nI (i + 1 + 1) := by rw [hx_2]; exact nI_1 _
        clear hx_2
        subst e8
        refine g_perm [0, 1, 2, 3] rfl ?_
        refine ih (i + 1) _ (by omega) ?_ (by omega)
        rw [P_worst, ← ht]
        first | (rw [if_pos c_34]; done) | (rw [if_neg c_34]; done)
set_option maxRecDepth 20000 in
theorem cb_worstWeightFor {E : En} {h : Hp} {b a nw : Nat} {B : Bu} (hB : BuOk h b) (ha : a < 8) (hw : B.1 7 = nI nw) (hn : nw ≤ 6) : CR E m_BU_worstWeightFor [.ref b, .ref (sh h b a)] (wB h b B) (some (.int (nI (P_worst B.1 B.2.1 (B.2.2 a) (nw - 1))))) (wB h b B) := by
  refine ct_of rfl (by decide +kernel) (Nat.le_of_ble_eq_true rfl) ?_
  show G E m_BU_worstWeightFor 0 [(0, .ref b), (1, .ref (sh h b a))] [] (wB h b B) 0 0 _ noX
  refine g_iconst (pc := 0) (v := 0) d_BU_worstWeightFor_0 (by decide) ?_
  refine g_nameI (fun x_1 hx_1 => ?_)
  refine g_istore_n (pc := 1) (lv' := [(2, .int x_1), (0, .ref b), (1, .ref (sh h b a))]) d_BU_worstWeightFor_1 rfl (by decide) rfl ?_
  refine g_iconst (pc := 2) (v := 1) d_BU_worstWeightFor_2 (by decide) ?_
  refine g_nameI (fun x_2 hx_2 => ?_)
  refine g_istore_n (pc := 3) (lv' := [(3, .int x_2), (2, .int x_1), (0, .ref b), (1, .ref (sh h b a))]) d_BU_worstWeightFor_3 rfl (by decide) rfl ?_
  subst hx_1
  subst hx_2
  exact lp_BU_worstWeightFor hB ha hw hn (nw + 1) 0 0 (Or.inl rfl) rfl (by omega)
def P_open (s : Nat → Nat → Int32) : Nat → Nat
  | 0 => 0
  | n + 1 => if s n 12 = 0 then P_open s n else P_open s n + 1
theorem P_open_le (s : Nat → Nat → Int32) : ∀ n, P_open s n ≤ n
  | 0 => Nat.le_refl _
  | n + 1 => by
    have := P_open_le s n
    rw [P_open]
    split <;> omega
theorem lp_BU_countOpen {E : En} {h : Hp} {b sc : Nat} {B : Bu} (hB : BuOk h b) (hs : B.1 8 = nI sc) (hm : sc ≤ 8) : ∀ (d i : Nat), i ≤ sc → sc - i < d → G E m_BU_countOpen 4 [(2, .int (nI i)), (1, .int (nI (P_open B.2.2 i))), (0, .ref b)] [] (wB h b B) 0 0 (fun v h' => v = some (.int (nI (P_open B.2.2 sc))) ∧ h' = wB h b B) noX := by
  intro d
  induction d with
  | zero => intros; omega
  | succ d ih =>
    intro i hi hd
    refine g_iload_n (pc := 4) d_BU_countOpen_4 rfl 0 rfl ?_
    refine g_aload_n (pc := 5) d_BU_countOpen_5 rfl 2 rfl ?_
    refine g_bgI (pc := 6) (f := 8) rfl d_BU_countOpen_6 fl_BU_56 hB ?_
    refine g_icmp_ge (pc := 9) (tgt := 33) d_BU_countOpen_9 (by decide) (fun c_9 => ?_) (fun c_9 => ?_)
    · skip
      have e9 : i = sc := by rw [hs] at c_9; have := (nI_leI (by omega) (by omega)).mp c_9; omega
      refine g_iload_n (pc := 33) d_BU_countOpen_33 rfl 1 rfl ?_
      refine g_iret (pc := 34) d_BU_countOpen_34 rfl ?_
      rw [e9]
      exact ⟨rfl, rfl⟩
    · skip
      have e9 : i < sc := by rw [hs] at c_9; exact Nat.lt_of_not_le (fun z => c_9 ((nI_leI (by omega) (by omega)).mpr z))
      refine g_aload_n (pc := 12) d_BU_countOpen_12 rfl 2 rfl ?_
      refine g_bgS (pc := 13) d_BU_countOpen_13 fl_BU_17 hB ?_
      refine g_iload_n (pc := 16) d_BU_countOpen_16 rfl 0 rfl ?_
      refine g_bsl (pc := 17) d_BU_countOpen_17 hB (by first | assumption | omega) ?_
      refine g_sgI (pc := 18) (f := 12) rfl d_BU_countOpen_18 fl_BU_97 hB (by first | assumption | omega) ?_
      refine g_if_eq (pc := 21) (tgt := 27) d_BU_countOpen_21 (by decide) (fun c_21 => ?_) (fun c_21 => ?_)
      · skip
        obtain ⟨x_1, hx_1⟩ : ∃ y : Int32, y = (nI i) + 1 := ⟨_, rfl⟩
        refine g_iinc (pc := 27) (w := 0) (v := x_1) (lv' := [(2, .int x_1), (1, .int (nI (P_open B.2.2 i))), (0, .ref b)]) d_BU_countOpen_27 rfl (by rw [hx_1]; rfl) (by decide) rfl ?_
        refine g_goto (pc := 30) (tgt := 4) d_BU_countOpen_30 (by decide) ?_
        have e8 : x_1 = nI (i + 1) := by rw [hx_1]; exact nI_1 _
        clear hx_1
        subst e8
        rw [show P_open B.2.2 i = P_open B.2.2 (i + 1) from by rw [P_open, if_pos c_21]]
        refine g_perm [0, 1, 2] rfl ?_
        exact ih (i + 1) (by omega) (by omega)
      · skip
        obtain ⟨x_2, hx_2⟩ : ∃ y : Int32, y = (nI (P_open B.2.2 i)) + 1 := ⟨_, rfl⟩
        refine g_iinc (pc := 24) (w := 1) (v := x_2) (lv' := [(1, .int x_2), (2, .int (nI i)), (0, .ref b)]) d_BU_countOpen_24 rfl (by rw [hx_2]; rfl) (by decide) rfl ?_
        obtain ⟨x_3, hx_3⟩ : ∃ y : Int32, y = (nI i) + 1 := ⟨_, rfl⟩
        refine g_iinc (pc := 27) (w := 1) (v := x_3) (lv' := [(2, .int x_3), (1, .int x_2), (0, .ref b)]) d_BU_countOpen_27 rfl (by rw [hx_3]; rfl) (by decide) rfl ?_
        refine g_goto (pc := 30) (tgt := 4) d_BU_countOpen_30 (by decide) ?_
        have e8 : x_3 = nI (i + 1) := by rw [hx_3]; exact nI_1 _
        clear hx_3
        subst e8
        have e7 : x_2 = nI (P_open B.2.2 (i + 1)) := by rw [hx_2, P_open, if_neg c_21]; exact nI_1 _
        clear hx_2
        subst e7
        refine g_perm [0, 1, 2] rfl ?_
        exact ih (i + 1) (by omega) (by omega)
set_option maxRecDepth 20000 in
theorem cb_countOpen {E : En} {h : Hp} {b sc : Nat} {B : Bu} (hB : BuOk h b) (hs : B.1 8 = nI sc) (hm : sc ≤ 8) : CR E m_BU_countOpen [.ref b] (wB h b B) (some (.int (nI (P_open B.2.2 sc)))) (wB h b B) := by
  refine ct_of rfl (by decide +kernel) (Nat.le_of_ble_eq_true rfl) ?_
  show G E m_BU_countOpen 0 [(0, .ref b)] [] (wB h b B) 0 0 _ noX
  refine g_iconst (pc := 0) (v := 0) d_BU_countOpen_0 (by decide) ?_
  refine g_nameI (fun x_1 hx_1 => ?_)
  refine g_istore_n (pc := 1) (lv' := [(1, .int x_1), (0, .ref b)]) d_BU_countOpen_1 rfl (by decide) rfl ?_
  refine g_iconst (pc := 2) (v := 0) d_BU_countOpen_2 (by decide) ?_
  refine g_nameI (fun x_2 hx_2 => ?_)
  refine g_istore_n (pc := 3) (lv' := [(2, .int x_2), (1, .int x_1), (0, .ref b)]) d_BU_countOpen_3 rfl (by decide) rfl ?_
  subst hx_1
  subst hx_2
  exact lp_BU_countOpen hB hs hm (sc + 1) 0 (Nat.zero_le _) (by omega)
def P_rank (s : Nat → Nat → Int32) (a : Nat) : Nat → Nat
  | 0 => 0
  | n + 1 => if s a 8 < s n 8 ∨ (s n 8 = s a 8 ∧ n < a) then P_rank s a n + 1 else P_rank s a n
theorem P_rank_le (s : Nat → Nat → Int32) (a : Nat) : ∀ n, P_rank s a n ≤ n
  | 0 => Nat.le_refl _
  | n + 1 => by
    have := P_rank_le s a n
    rw [P_rank]
    split <;> omega
theorem lp_BU_rankOf {E : En} {h : Hp} {b a sc : Nat} {B : Bu} (hB : BuOk h b) (ha : a < 8) (hs : B.1 8 = nI sc) (hm : sc ≤ 8) : ∀ (d i : Nat), i ≤ sc → sc - i < d → G E m_BU_rankOf 15 [(4, .int (nI i)), (3, .int (nI (P_rank B.2.2 a i))), (2, .int (B.2.2 a 8)), (0, .ref b), (1, .int (nI a))] [] (wB h b B) 0 0 (fun v h' => v = some (.int (nI (P_rank B.2.2 a sc))) ∧ h' = wB h b B) noX := by
  intro d
  induction d with
  | zero => intros; omega
  | succ d ih =>
    intro i hi hd
    refine g_iload (pc := 15) d_BU_rankOf_15 0 rfl ?_
    refine g_aload_n (pc := 17) d_BU_rankOf_17 rfl 3 rfl ?_
    refine g_bgI (pc := 18) (f := 8) rfl d_BU_rankOf_18 fl_BU_56 hB ?_
    refine g_icmp_ge (pc := 21) (tgt := 63) d_BU_rankOf_21 (by decide) (fun c_21 => ?_) (fun c_21 => ?_)
    · skip
      have e9 : i = sc := by rw [hs] at c_21; have := (nI_leI (by omega) (by omega)).mp c_21; omega
      refine g_iload_n (pc := 63) d_BU_rankOf_63 rfl 1 rfl ?_
      refine g_iret (pc := 64) d_BU_rankOf_64 rfl ?_
      rw [e9]
      exact ⟨rfl, rfl⟩
    · skip
      have e9 : i < sc := by rw [hs] at c_21; exact Nat.lt_of_not_le (fun z => c_21 ((nI_leI (by omega) (by omega)).mpr z))
      refine g_aload_n (pc := 24) d_BU_rankOf_24 rfl 3 rfl ?_
      refine g_bgS (pc := 25) d_BU_rankOf_25 fl_BU_17 hB ?_
      refine g_iload (pc := 28) d_BU_rankOf_28 0 rfl ?_
      refine g_bsl (pc := 30) d_BU_rankOf_30 hB (by first | assumption | omega) ?_
      refine g_sgI (pc := 31) (f := 8) rfl d_BU_rankOf_31 fl_BU_101 hB (by first | assumption | omega) ?_
      refine g_istore (pc := 34) (lv' := [(5, .int (B.2.2 i 8)), (4, .int (nI i)), (3, .int (nI (P_rank B.2.2 a i))), (2, .int (B.2.2 a 8)), (0, .ref b), (1, .int (nI a))]) d_BU_rankOf_34 (by decide) rfl ?_
      refine g_iload (pc := 36) d_BU_rankOf_36 0 rfl ?_
      refine g_iload_n (pc := 38) d_BU_rankOf_38 rfl 3 rfl ?_
      refine g_icmp_gt (pc := 39) (tgt := 54) d_BU_rankOf_39 (by decide) (fun c_39 => ?_) (fun c_39 => ?_)
      · skip
        obtain ⟨x_1, hx_1⟩ : ∃ y : Int32, y = (nI (P_rank B.2.2 a i)) + 1 := ⟨_, rfl⟩
        refine g_iinc (pc := 54) (w := 2) (v := x_1) (lv' := [(3, .int x_1), (5, .int (B.2.2 i 8)), (4, .int (nI i)), (2, .int (B.2.2 a 8)), (0, .ref b), (1, .int (nI a))]) d_BU_rankOf_54 rfl (by rw [hx_1]; rfl) (by decide) rfl ?_
        obtain ⟨x_2, hx_2⟩ : ∃ y : Int32, y = (nI i) + 1 := ⟨_, rfl⟩
        refine g_iinc (pc := 57) (w := 2) (v := x_2) (lv' := [(4, .int x_2), (3, .int x_1), (5, .int (B.2.2 i 8)), (2, .int (B.2.2 a 8)), (0, .ref b), (1, .int (nI a))]) d_BU_rankOf_57 rfl (by rw [hx_2]; rfl) (by decide) rfl ?_
        refine g_goto (pc := 60) (tgt := 15) d_BU_rankOf_60 (by decide) ?_
        have e8 : x_2 = nI (i + 1) := by rw [hx_2]; exact nI_1 _
        clear hx_2
        subst e8
        try have c_39 : B.2.2 a 8 < B.2.2 i 8 := c_39
        try have c_39 : ¬ B.2.2 a 8 < B.2.2 i 8 := c_39
        have e7 : x_1 = nI (P_rank B.2.2 a (i + 1)) := by
          rw [hx_1, P_rank, if_pos (by first | exact Or.inl c_39 | exact Or.inr ⟨c_45, Nat.lt_of_not_le fun z => c_51 ((nI_leI (by omega) (by omega)).mpr z)⟩)]
          exact nI_1 _
        clear hx_1
        subst e7
        refine g_perm [0, 1, 3, 4, 5] rfl ?_
        exact ih (i + 1) (by omega) (by omega)
      · skip
        refine g_iload (pc := 42) d_BU_rankOf_42 0 rfl ?_
        refine g_iload_n (pc := 44) d_BU_rankOf_44 rfl 3 rfl ?_
        refine g_icmp_ne (pc := 45) (tgt := 57) d_BU_rankOf_45 (by decide) (fun c_45 => ?_) (fun c_45 => ?_)
        · skip
          obtain ⟨x_3, hx_3⟩ : ∃ y : Int32, y = (nI i) + 1 := ⟨_, rfl⟩
          refine g_iinc (pc := 57) (w := 1) (v := x_3) (lv' := [(4, .int x_3), (5, .int (B.2.2 i 8)), (3, .int (nI (P_rank B.2.2 a i))), (2, .int (B.2.2 a 8)), (0, .ref b), (1, .int (nI a))]) d_BU_rankOf_57 rfl (by rw [hx_3]; rfl) (by decide) rfl ?_
          refine g_goto (pc := 60) (tgt := 15) d_BU_rankOf_60 (by decide) ?_
          have e8 : x_3 = nI (i + 1) := by rw [hx_3]; exact nI_1 _
          clear hx_3
          subst e8
          try have c_39 : B.2.2 a 8 < B.2.2 i 8 := c_39
          try have c_39 : ¬ B.2.2 a 8 < B.2.2 i 8 := c_39
          rw [show P_rank B.2.2 a i = P_rank B.2.2 a (i + 1) from by rw [P_rank, if_neg (by rintro (z | ⟨z1, z2⟩) <;> first | exact c_39 z | exact c_45 z1 | exact absurd ((nI_leI (by omega) (by omega)).mp c_51) (by omega))]]
          refine g_perm [0, 2, 3, 4, 5] rfl ?_
          exact ih (i + 1) (by omega) (by omega)
        · skip
          refine g_iload (pc := 48) d_BU_rankOf_48 1 rfl ?_
          refine g_iload_n (pc := 50) d_BU_rankOf_50 rfl 5 rfl ?_
          refine g_icmp_ge (pc := 51) (tgt := 57) d_BU_rankOf_51 (by decide) (fun c_51 => ?_) (fun c_51 => ?_)
          · skip
            obtain ⟨x_4, hx_4⟩ : ∃ y : Int32, y = (nI i) + 1 := ⟨_, rfl⟩
            refine g_iinc (pc := 57) (w := 1) (v := x_4) (lv' := [(4, .int x_4), (5, .int (B.2.2 i 8)), (3, .int (nI (P_rank B.2.2 a i))), (2, .int (B.2.2 a 8)), (0, .ref b), (1, .int (nI a))]) d_BU_rankOf_57 rfl (by rw [hx_4]; rfl) (by decide) rfl ?_
            refine g_goto (pc := 60) (tgt := 15) d_BU_rankOf_60 (by decide) ?_
            have e8 : x_4 = nI (i + 1) := by rw [hx_4]; exact nI_1 _
            clear hx_4
            subst e8
            try have c_39 : B.2.2 a 8 < B.2.2 i 8 := c_39
            try have c_39 : ¬ B.2.2 a 8 < B.2.2 i 8 := c_39
            rw [show P_rank B.2.2 a i = P_rank B.2.2 a (i + 1) from by rw [P_rank, if_neg (by rintro (z | ⟨z1, z2⟩) <;> first | exact c_39 z | exact c_45 z1 | exact absurd ((nI_leI (by omega) (by omega)).mp c_51) (by omega))]]
            refine g_perm [0, 2, 3, 4, 5] rfl ?_
            exact ih (i + 1) (by omega) (by omega)
          · skip
            obtain ⟨x_5, hx_5⟩ : ∃ y : Int32, y = (nI (P_rank B.2.2 a i)) + 1 := ⟨_, rfl⟩
            refine g_iinc (pc := 54) (w := 2) (v := x_5) (lv' := [(3, .int x_5), (5, .int (B.2.2 i 8)), (4, .int (nI i)), (2, .int (B.2.2 a 8)), (0, .ref b), (1, .int (nI a))]) d_BU_rankOf_54 rfl (by rw [hx_5]; rfl) (by decide) rfl ?_
            obtain ⟨x_6, hx_6⟩ : ∃ y : Int32, y = (nI i) + 1 := ⟨_, rfl⟩
            refine g_iinc (pc := 57) (w := 2) (v := x_6) (lv' := [(4, .int x_6), (3, .int x_5), (5, .int (B.2.2 i 8)), (2, .int (B.2.2 a 8)), (0, .ref b), (1, .int (nI a))]) d_BU_rankOf_57 rfl (by rw [hx_6]; rfl) (by decide) rfl ?_
            refine g_goto (pc := 60) (tgt := 15) d_BU_rankOf_60 (by decide) ?_
            have e8 : x_6 = nI (i + 1) := by rw [hx_6]; exact nI_1 _
            clear hx_6
            subst e8
            try have c_39 : B.2.2 a 8 < B.2.2 i 8 := c_39
            try have c_39 : ¬ B.2.2 a 8 < B.2.2 i 8 := c_39
            have e7 : x_5 = nI (P_rank B.2.2 a (i + 1)) := by
              rw [hx_5, P_rank, if_pos (by first | exact Or.inl c_39 | exact Or.inr ⟨c_45, Nat.lt_of_not_le fun z => c_51 ((nI_leI (by omega) (by omega)).mpr z)⟩)]
              exact nI_1 _
            clear hx_5
            subst e7
            refine g_perm [0, 1, 3, 4, 5] rfl ?_
            exact ih (i + 1) (by omega) (by omega)
set_option maxRecDepth 20000 in
theorem cb_rankOf {E : En} {h : Hp} {b a sc : Nat} {B : Bu} (hB : BuOk h b) (ha : a < 8) (hs : B.1 8 = nI sc) (hm : sc ≤ 8) : CR E m_BU_rankOf [.ref b, .int (nI a)] (wB h b B) (some (.int (nI (P_rank B.2.2 a sc)))) (wB h b B) := by
  refine ct_of rfl (by decide +kernel) (Nat.le_of_ble_eq_true rfl) ?_
  show G E m_BU_rankOf 0 [(0, .ref b), (1, .int (nI a))] [] (wB h b B) 0 0 _ noX
  refine g_aload_n (pc := 0) d_BU_rankOf_0 rfl 0 rfl ?_
  refine g_bgS (pc := 1) d_BU_rankOf_1 fl_BU_17 hB ?_
  refine g_iload_n (pc := 4) d_BU_rankOf_4 rfl 1 rfl ?_
  refine g_bsl (pc := 5) d_BU_rankOf_5 hB (by first | assumption | omega) ?_
  refine g_sgI (pc := 6) (f := 8) rfl d_BU_rankOf_6 fl_BU_101 hB (by first | assumption | omega) ?_
  refine g_istore_n (pc := 9) (lv' := [(2, .int (B.2.2 a 8)), (0, .ref b), (1, .int (nI a))]) d_BU_rankOf_9 rfl (by decide) rfl ?_
  refine g_iconst (pc := 10) (v := 0) d_BU_rankOf_10 (by decide) ?_
  refine g_nameI (fun x_1 hx_1 => ?_)
  refine g_istore_n (pc := 11) (lv' := [(3, .int x_1), (2, .int (B.2.2 a 8)), (0, .ref b), (1, .int (nI a))]) d_BU_rankOf_11 rfl (by decide) rfl ?_
  refine g_iconst (pc := 12) (v := 0) d_BU_rankOf_12 (by decide) ?_
  refine g_nameI (fun x_2 hx_2 => ?_)
  refine g_istore (pc := 13) (lv' := [(4, .int x_2), (3, .int x_1), (2, .int (B.2.2 a 8)), (0, .ref b), (1, .int (nI a))]) d_BU_rankOf_13 (by decide) rfl ?_
  subst hx_1
  subst hx_2
  exact lp_BU_rankOf hB ha hs hm (sc + 1) 0 (Nat.zero_le _) (by omega)
def P_has (w : Nat → Int32) (g : Int32) (n : Nat) : Bool := (List.range n).any (fun j => decide (w j = g))
theorem P_has_of {w : Nat → Int32} {g : Int32} {n j : Nat} (hj : j < n) (e : w j = g) : P_has w g n = true := List.any_eq_true.mpr ⟨j, List.mem_range.mpr hj, decide_eq_true e⟩
theorem P_has_no {w : Nat → Int32} {g : Int32} {n : Nat} (e : ∀ j, j < n → w j ≠ g) : P_has w g n = false := by
  unfold P_has
  rw [List.any_eq_false]
  intro j hj
  rw [decide_eq_true_iff]
  exact e j (List.mem_range.mp hj)
theorem lp_BU_hasWeight {E : En} {h : Hp} {b nw : Nat} {B : Bu} {g : Int32} (hB : BuOk h b) (hw : B.1 7 = nI nw) (hn : nw ≤ 6) : ∀ (d i : Nat), i ≤ nw → (∀ j, j < i → B.2.1 j ≠ g) → nw - i < d → G E m_BU_hasWeight 2 [(2, .int (nI i)), (0, .ref b), (1, .int g)] [] (wB h b B) 0 0 (fun v h' => v = some (.int (bI (P_has B.2.1 g nw))) ∧ h' = wB h b B) noX := by
  intro d
  induction d with
  | zero => intros; omega
  | succ d ih =>
    intro i hi ha hd
    refine g_iload_n (pc := 2) d_BU_hasWeight_2 rfl 0 rfl ?_
    refine g_aload_n (pc := 3) d_BU_hasWeight_3 rfl 1 rfl ?_
    refine g_bgI (pc := 4) (f := 7) rfl d_BU_hasWeight_4 fl_BU_53 hB ?_
    refine g_icmp_ge (pc := 7) (tgt := 28) d_BU_hasWeight_7 (by decide) (fun c_7 => ?_) (fun c_7 => ?_)
    · skip
      have e9 : i = nw := by rw [hw] at c_7; have := (nI_leI (by omega) (by omega)).mp c_7; omega
      refine g_iconst (pc := 28) (v := 0) d_BU_hasWeight_28 (by decide) ?_
      refine g_zret (pc := 29) d_BU_hasWeight_29 rfl rfl ?_
      rw [P_has_no (by rw [← e9]; exact ha)]
      exact ⟨rfl, rfl⟩
    · skip
      have e9 : i < nw := by rw [hw] at c_7; exact Nat.lt_of_not_le (fun z => c_7 ((nI_leI (by omega) (by omega)).mpr z))
      refine g_aload_n (pc := 10) d_BU_hasWeight_10 rfl 1 rfl ?_
      refine g_bgW (pc := 11) d_BU_hasWeight_11 fl_BU_9 hB ?_
      refine g_iload_n (pc := 14) d_BU_hasWeight_14 rfl 0 rfl ?_
      refine g_bwl (pc := 15) d_BU_hasWeight_15 hB (by first | assumption | omega) ?_
      refine g_iload_n (pc := 16) d_BU_hasWeight_16 rfl 2 rfl ?_
      refine g_icmp_ne (pc := 17) (tgt := 22) d_BU_hasWeight_17 (by decide) (fun c_17 => ?_) (fun c_17 => ?_)
      · skip
        obtain ⟨x_1, hx_1⟩ : ∃ y : Int32, y = (nI i) + 1 := ⟨_, rfl⟩
        refine g_iinc (pc := 22) (w := 0) (v := x_1) (lv' := [(2, .int x_1), (0, .ref b), (1, .int g)]) d_BU_hasWeight_22 rfl (by rw [hx_1]; rfl) (by decide) rfl ?_
        refine g_goto (pc := 25) (tgt := 2) d_BU_hasWeight_25 (by decide) ?_
        have e8 : x_1 = nI (i + 1) := by rw [hx_1]; exact nI_1 _
        clear hx_1
        subst e8
        refine g_perm [0, 1, 2] rfl ?_
        exact ih (i + 1) (by omega) (fun j hj => (Nat.lt_or_eq_of_le (Nat.le_of_lt_succ hj)).elim (fun z => ha j z) (fun z => by rw [z]; exact c_17)) (by omega)
      · skip
        refine g_iconst (pc := 20) (v := 1) d_BU_hasWeight_20 (by decide) ?_
        refine g_zret (pc := 21) d_BU_hasWeight_21 rfl rfl ?_
        rw [P_has_of e9 c_17]
        exact ⟨rfl, rfl⟩
set_option maxRecDepth 20000 in
theorem cb_hasWeight {E : En} {h : Hp} {b nw : Nat} {B : Bu} {g : Int32} (hB : BuOk h b) (hw : B.1 7 = nI nw) (hn : nw ≤ 6) : CR E m_BU_hasWeight [.ref b, .int g] (wB h b B) (some (.int (bI (P_has B.2.1 g nw)))) (wB h b B) := by
  refine ct_of rfl (by decide +kernel) (Nat.le_of_ble_eq_true rfl) ?_
  show G E m_BU_hasWeight 0 [(0, .ref b), (1, .int g)] [] (wB h b B) 0 0 _ noX
  refine g_iconst (pc := 0) (v := 0) d_BU_hasWeight_0 (by decide) ?_
  refine g_nameI (fun x_1 hx_1 => ?_)
  refine g_istore_n (pc := 1) (lv' := [(2, .int x_1), (0, .ref b), (1, .int g)]) d_BU_hasWeight_1 rfl (by decide) rfl ?_
  subst hx_1
  exact lp_BU_hasWeight hB hw hn (nw + 1) 0 (Nat.zero_le _) (fun j hj => by omega) (by omega)
def P_addW (B : Bu) (nw : Nat) (g : Int32) : Bu := (u1 B.1 7 (nI (nw + 1)), u1 B.2.1 nw g, B.2.2)
set_option maxRecDepth 20000 in
theorem cb_addWeight {E : En} {h : Hp} {b nw : Nat} {B : Bu} {g : Int32} (hB : BuOk h b) (hw : B.1 7 = nI nw) (hn : nw < 6) : CR E m_BU_addWeight [.ref b, .int g] (wB h b B) (none) (wB h b (P_addW B nw g)) := by
  refine ct_of rfl (by decide +kernel) (Nat.le_of_ble_eq_true rfl) ?_
  show G E m_BU_addWeight 0 [(0, .ref b), (1, .int g)] [] (wB h b B) 0 0 _ noX
  refine g_aload_n (pc := 0) d_BU_addWeight_0 rfl 0 rfl ?_
  refine g_bgI (pc := 1) (f := 7) rfl d_BU_addWeight_1 fl_BU_53 hB ?_
  refine g_bipush (pc := 4) (v := 6) d_BU_addWeight_4 (by decide) ?_
  refine g_icmp_ge (pc := 6) (tgt := 29) d_BU_addWeight_6 (by decide) (fun c_6 => ?_) (fun c_6 => ?_)
  · exact absurd ((nI_leI (a := 6) (b := nw) (by omega) (by omega)).mp (by rw [hw] at c_6; exact c_6)) (by omega)
  · skip
    refine g_aload_n (pc := 9) d_BU_addWeight_9 rfl 0 rfl ?_
    refine g_bgW (pc := 10) d_BU_addWeight_10 fl_BU_9 hB ?_
    refine g_aload_n (pc := 13) d_BU_addWeight_13 rfl 0 rfl ?_
    refine g_bgI (pc := 14) (f := 7) rfl d_BU_addWeight_14 fl_BU_53 hB ?_
    rw [hw]
    refine g_iload_n (pc := 17) d_BU_addWeight_17 rfl 1 rfl ?_
    refine g_bws (pc := 18) d_BU_addWeight_18 hB (by first | assumption | omega) ?_
    refine g_aload_n (pc := 19) d_BU_addWeight_19 rfl 0 rfl ?_
    refine g_dup (pc := 20) d_BU_addWeight_20 rfl ?_
    refine g_bgI (pc := 21) (f := 7) rfl d_BU_addWeight_21 fl_BU_53 hB ?_
    refine g_iconst (pc := 24) (v := 1) d_BU_addWeight_24 (by decide) ?_
    refine g_iadd (pc := 25) d_BU_addWeight_25 ?_
    refine g_bpI (pc := 26) (f := 7) rfl d_BU_addWeight_26 fl_BU_53 (fun q hq => by cases hq; exact rfl) rfl rfl hB ?_
    refine g_vret (pc := 29) d_BU_addWeight_29 rfl ?_
    refine ⟨rfl, ?_⟩
    unfold sC sW P_addW
    rw [show (B.1, u1 B.2.1 nw g, B.2.2).1 7 = nI nw from hw, nI_1]
theorem P_drift_S (B : Bu) (i : Nat) : P_drift (i + 1) B = sS (P_drift i B) i (M_drift ((P_drift i B).2.2 i)) := by
  refine Prod.ext rfl (Prod.ext rfl ?_)
  funext q
  show (if q < i + 1 then M_drift (B.2.2 q) else B.2.2 q) = u1 (fun q => if q < i then M_drift (B.2.2 q) else B.2.2 q) i (M_drift (if i < i then M_drift (B.2.2 i) else B.2.2 i)) q
  rw [u1_at, if_neg (Nat.lt_irrefl i)]
  by_cases e : q = i
  · rw [if_pos e, e, if_pos (Nat.lt_succ_self i)]
  · rw [if_neg e]
    by_cases e2 : q < i
    · rw [if_pos e2, if_pos (by omega)]
    · rw [if_neg e2, if_neg (by omega)]
theorem P_drift_0 (B : Bu) : P_drift 0 B = B := by
  refine Prod.ext rfl (Prod.ext rfl ?_)
  funext q
  show (if q < 0 then M_drift (B.2.2 q) else B.2.2 q) = B.2.2 q
  exact if_neg (Nat.not_lt_zero q)
theorem P_trade_S (B : Bu) (i : Nat) : P_trade (i + 1) B = sS (P_trade i B) i (M_trade B.1 (B.2.2 i)) := by
  refine Prod.ext rfl (Prod.ext rfl ?_)
  funext q
  show (if q < i + 1 then M_trade B.1 (B.2.2 q) else B.2.2 q) = u1 (fun q => if q < i then M_trade B.1 (B.2.2 q) else B.2.2 q) i (M_trade B.1 (B.2.2 i)) q
  rw [u1_at]
  by_cases e : q = i
  · rw [if_pos e, e, if_pos (Nat.lt_succ_self i)]
  · rw [if_neg e]
    by_cases e2 : q < i
    · rw [if_pos e2, if_pos (by omega)]
    · rw [if_neg e2, if_neg (by omega)]
theorem P_trade_0 (B : Bu) : P_trade 0 B = B := by
  refine Prod.ext rfl (Prod.ext rfl ?_)
  funext q
  show (if q < 0 then M_trade B.1 (B.2.2 q) else B.2.2 q) = B.2.2 q
  exact if_neg (Nat.not_lt_zero q)
theorem P_trade_i (B : Bu) (i : Nat) : (P_trade i B).2.2 i = B.2.2 i := if_neg (Nat.lt_irrefl i)
theorem sS_self (B : Bu) (i : Nat) : sS B i (B.2.2 i) = B := by
  refine Prod.ext rfl (Prod.ext rfl ?_)
  funext q
  show u1 B.2.2 i (B.2.2 i) q = B.2.2 q
  rw [u1_at]
  by_cases e : q = i
  · rw [if_pos e, e]
  · rw [if_neg e]
theorem lp_BU_beginDay {E : En} {h : Hp} {b sc : Nat} {B : Bu} (hB : BuOk h b) (hs : B.1 8 = nI sc) (hm : sc ≤ 8) : ∀ (d i : Nat), i ≤ sc → sc - i < d → G E m_BU_beginDay 12 [(1, .int (nI i)), (0, .ref b)] [] (wB h b (P_drift i B)) 0 0 (fun v h' => v = none ∧ h' = wB h b (P_drift sc B)) noX := by
  intro d
  induction d with
  | zero => intros; omega
  | succ d ih =>
    intro i hi hd
    refine g_iload_n (pc := 12) d_BU_beginDay_12 rfl 0 rfl ?_
    refine g_aload_n (pc := 13) d_BU_beginDay_13 rfl 1 rfl ?_
    refine g_bgI (pc := 14) (f := 8) rfl d_BU_beginDay_14 fl_BU_56 hB ?_
    refine g_icmp_ge (pc := 17) (tgt := 35) d_BU_beginDay_17 (by decide) (fun c_17 => ?_) (fun c_17 => ?_)
    · skip
      have e9 : i = sc := by rw [(show (P_drift i B).1 8 = nI sc from hs)] at c_17; have := (nI_leI (by omega) (by omega)).mp c_17; omega
      refine g_vret (pc := 35) d_BU_beginDay_35 rfl ?_
      rw [e9]
      exact ⟨rfl, rfl⟩
    · skip
      have e9 : i < sc := by rw [(show (P_drift i B).1 8 = nI sc from hs)] at c_17; exact Nat.lt_of_not_le (fun z => c_17 ((nI_leI (by omega) (by omega)).mpr z))
      refine g_aload_n (pc := 20) d_BU_beginDay_20 rfl 1 rfl ?_
      refine g_bgS (pc := 21) d_BU_beginDay_21 fl_BU_17 hB ?_
      refine g_iload_n (pc := 24) d_BU_beginDay_24 rfl 0 rfl ?_
      refine g_bsl (pc := 25) d_BU_beginDay_25 hB (by first | assumption | omega) ?_
      refine g_cV0 (pc := 26) (ci := 5) (As := []) d_BU_beginDay_26 rfl mv_SH_driftOneDay st_BU_beginDay_117 rfl rfl (by decide) rfl rfl (Nat.le_of_ble_eq_true rfl) (hB.sk (by first | assumption | omega)) (cb_driftOneDay hB (by first | assumption | omega)) ?_
      obtain ⟨x_1, hx_1⟩ : ∃ y : Int32, y = (nI i) + 1 := ⟨_, rfl⟩
      refine g_iinc (pc := 29) (w := 0) (v := x_1) (lv' := [(1, .int x_1), (0, .ref b)]) d_BU_beginDay_29 rfl (by rw [hx_1]; rfl) (by decide) rfl ?_
      refine g_goto (pc := 32) (tgt := 12) d_BU_beginDay_32 (by decide) ?_
      have e8 : x_1 = nI (i + 1) := by rw [hx_1]; exact nI_1 _
      clear hx_1
      subst e8
      refine g_perm [0, 1] rfl ?_
      refine g_h (h' := wB h b (P_drift (i + 1) B)) ?_ (ih (i + 1) (by omega) (by omega))
      rw [P_drift_S]
set_option maxRecDepth 20000 in
theorem cb_beginDay {E : En} {h : Hp} {b sc : Nat} {B : Bu} (hB : BuOk h b) (hs : B.1 8 = nI sc) (hm : sc ≤ 8) : CR E m_BU_beginDay [.ref b] (wB h b B) (none) (wB h b (P_begin sc B)) := by
  refine ct_of rfl (by decide +kernel) (Nat.le_of_ble_eq_true rfl) ?_
  show G E m_BU_beginDay 0 [(0, .ref b)] [] (wB h b B) 0 0 _ noX
  refine g_aload_n (pc := 0) d_BU_beginDay_0 rfl 0 rfl ?_
  refine g_dup (pc := 1) d_BU_beginDay_1 rfl ?_
  refine g_bgI (pc := 2) (f := 9) rfl d_BU_beginDay_2 fl_BU_50 hB ?_
  refine g_iconst (pc := 5) (v := 1) d_BU_beginDay_5 (by decide) ?_
  refine g_iadd (pc := 6) d_BU_beginDay_6 ?_
  refine g_bpI (pc := 7) (f := 9) rfl d_BU_beginDay_7 fl_BU_50 (fun q hq => by cases hq; exact rfl) rfl rfl hB ?_
  refine g_iconst (pc := 10) (v := 0) d_BU_beginDay_10 (by decide) ?_
  refine g_nameI (fun x_1 hx_1 => ?_)
  refine g_istore_n (pc := 11) (lv' := [(1, .int x_1), (0, .ref b)]) d_BU_beginDay_11 rfl (by decide) rfl ?_
  subst hx_1
  refine g_h (h' := wB h b (P_drift 0 (sC B (u1 B.1 9 (B.1 9 + 1))))) (by rw [P_drift_0]) ?_
  exact lp_BU_beginDay (B := sC B (u1 B.1 9 (B.1 9 + 1))) hB hs hm (sc + 1) 0 (Nat.zero_le _) (by omega)
theorem lp_BU_trade {E : En} {h : Hp} {b sc : Nat} {B : Bu} (hB : BuOk h b) (hs : B.1 8 = nI sc) (hm : sc ≤ 8) : ∀ (d i : Nat), i ≤ sc → sc - i < d → G E m_BU_trade 2 [(1, .int (nI i)), (0, .ref b)] [] (wB h b (P_trade i B)) 0 0 (fun v h' => v = none ∧ h' = wB h b (P_trade sc B)) noX := by
  intro d
  induction d with
  | zero => intros; omega
  | succ d ih =>
    intro i hi hd
    refine g_iload_n (pc := 2) d_BU_trade_2 rfl 0 rfl ?_
    refine g_aload_n (pc := 3) d_BU_trade_3 rfl 1 rfl ?_
    refine g_bgI (pc := 4) (f := 8) rfl d_BU_trade_4 fl_BU_56 hB ?_
    refine g_icmp_ge (pc := 7) (tgt := 38) d_BU_trade_7 (by decide) (fun c_7 => ?_) (fun c_7 => ?_)
    · skip
      have e9 : i = sc := by rw [(show (P_trade i B).1 8 = nI sc from hs)] at c_7; have := (nI_leI (by omega) (by omega)).mp c_7; omega
      refine g_vret (pc := 38) d_BU_trade_38 rfl ?_
      rw [e9]
      exact ⟨rfl, rfl⟩
    · skip
      have e9 : i < sc := by rw [(show (P_trade i B).1 8 = nI sc from hs)] at c_7; exact Nat.lt_of_not_le (fun z => c_7 ((nI_leI (by omega) (by omega)).mpr z))
      refine g_aload_n (pc := 10) d_BU_trade_10 rfl 1 rfl ?_
      refine g_bgS (pc := 11) d_BU_trade_11 fl_BU_17 hB ?_
      refine g_iload_n (pc := 14) d_BU_trade_14 rfl 0 rfl ?_
      refine g_bsl (pc := 15) d_BU_trade_15 hB (by first | assumption | omega) ?_
      refine g_sgI (pc := 16) (f := 12) rfl d_BU_trade_16 fl_BU_97 hB (by first | assumption | omega) ?_
      refine g_if_eq (pc := 19) (tgt := 32) d_BU_trade_19 (by decide) (fun c_19 => ?_) (fun c_19 => ?_)
      · skip
        obtain ⟨x_1, hx_1⟩ : ∃ y : Int32, y = (nI i) + 1 := ⟨_, rfl⟩
        refine g_iinc (pc := 32) (w := 0) (v := x_1) (lv' := [(1, .int x_1), (0, .ref b)]) d_BU_trade_32 rfl (by rw [hx_1]; rfl) (by decide) rfl ?_
        refine g_goto (pc := 35) (tgt := 2) d_BU_trade_35 (by decide) ?_
        have e8 : x_1 = nI (i + 1) := by rw [hx_1]; exact nI_1 _
        clear hx_1
        subst e8
        refine g_perm [0, 1] rfl ?_
        refine g_h (h' := wB h b (P_trade (i + 1) B)) ?_ (ih (i + 1) (by omega) (by omega))
        rw [P_trade_i] at c_19
        rw [P_trade_S]
        unfold M_trade
        first | (rw [if_pos c_19]; exact congrArg (wB h b) ((congrArg (sS (P_trade i B) i) (P_trade_i B i)).symm.trans (sS_self _ _)).symm) | (rw [if_neg c_19, P_trade_i]; rfl)
      · skip
        refine g_aload_n (pc := 22) d_BU_trade_22 rfl 1 rfl ?_
        refine g_aload_n (pc := 23) d_BU_trade_23 rfl 1 rfl ?_
        refine g_bgS (pc := 24) d_BU_trade_24 fl_BU_17 hB ?_
        refine g_iload_n (pc := 27) d_BU_trade_27 rfl 0 rfl ?_
        refine g_bsl (pc := 28) d_BU_trade_28 hB (by first | assumption | omega) ?_
        refine g_cV0 (pc := 29) (ci := 4) (As := [.ref _]) d_BU_trade_29 rfl mv_BU_makeSales st_BU_trade_120 rfl rfl (by decide) rfl rfl (Nat.le_of_ble_eq_true rfl) hB.1 (cb_makeSales hB (by first | assumption | omega)) ?_
        obtain ⟨x_2, hx_2⟩ : ∃ y : Int32, y = (nI i) + 1 := ⟨_, rfl⟩
        refine g_iinc (pc := 32) (w := 0) (v := x_2) (lv' := [(1, .int x_2), (0, .ref b)]) d_BU_trade_32 rfl (by rw [hx_2]; rfl) (by decide) rfl ?_
        refine g_goto (pc := 35) (tgt := 2) d_BU_trade_35 (by decide) ?_
        have e8 : x_2 = nI (i + 1) := by rw [hx_2]; exact nI_1 _
        clear hx_2
        subst e8
        refine g_perm [0, 1] rfl ?_
        refine g_h (h' := wB h b (P_trade (i + 1) B)) ?_ (ih (i + 1) (by omega) (by omega))
        rw [P_trade_i] at c_19
        rw [P_trade_S]
        unfold M_trade
        first | (rw [if_pos c_19]; exact congrArg (wB h b) ((congrArg (sS (P_trade i B) i) (P_trade_i B i)).symm.trans (sS_self _ _)).symm) | (rw [if_neg c_19, P_trade_i]; rfl)
set_option maxRecDepth 20000 in
theorem cb_trade {E : En} {h : Hp} {b sc : Nat} {B : Bu} (hB : BuOk h b) (hs : B.1 8 = nI sc) (hm : sc ≤ 8) : CR E m_BU_trade [.ref b] (wB h b B) (none) (wB h b (P_trade sc B)) := by
  refine ct_of rfl (by decide +kernel) (Nat.le_of_ble_eq_true rfl) ?_
  show G E m_BU_trade 0 [(0, .ref b)] [] (wB h b B) 0 0 _ noX
  refine g_iconst (pc := 0) (v := 0) d_BU_trade_0 (by decide) ?_
  refine g_nameI (fun x_1 hx_1 => ?_)
  refine g_istore_n (pc := 1) (lv' := [(1, .int x_1), (0, .ref b)]) d_BU_trade_1 rfl (by decide) rfl ?_
  subst hx_1
  refine g_h (h' := wB h b (P_trade 0 B)) (by rw [P_trade_0]) ?_
  exact lp_BU_trade hB hs hm (sc + 1) 0 (Nat.zero_le _) (by omega)
theorem lp_BU_mostAccused {E : En} {h : Hp} {b sc : Nat} {B : Bu} (hB : BuOk h b) (hs : B.1 8 = nI sc) (hm : sc ≤ 8) : ∀ (d i : Nat), i ≤ sc → sc - i < d → G E m_BU_mostAccused 6 [(3, .int (nI i)), (2, .int (P_most B i).2), (1, .int (oI (P_most B i).1)), (0, .ref b)] [] (wB h b B) 0 0 (fun v h' => v = some (.int (oI (P_most B sc).1)) ∧ h' = wB h b B) noX := by
  intro d
  induction d with
  | zero => intros; omega
  | succ d ih =>
    intro i hi hd
    refine g_iload_n (pc := 6) d_BU_mostAccused_6 rfl 0 rfl ?_
    refine g_aload_n (pc := 7) d_BU_mostAccused_7 rfl 3 rfl ?_
    refine g_bgI (pc := 8) (f := 8) rfl d_BU_mostAccused_8 fl_BU_56 hB ?_
    refine g_icmp_ge (pc := 11) (tgt := 58) d_BU_mostAccused_11 (by decide) (fun c_11 => ?_) (fun c_11 => ?_)
    · skip
      have e9 : i = sc := by rw [hs] at c_11; have := (nI_leI (by omega) (by omega)).mp c_11; omega
      refine g_iload_n (pc := 58) d_BU_mostAccused_58 rfl 2 rfl ?_
      refine g_iret (pc := 59) d_BU_mostAccused_59 rfl ?_
      rw [e9]
      exact ⟨rfl, rfl⟩
    · skip
      have e9 : i < sc := by rw [hs] at c_11; exact Nat.lt_of_not_le (fun z => c_11 ((nI_leI (by omega) (by omega)).mpr z))
      refine g_aload_n (pc := 14) d_BU_mostAccused_14 rfl 3 rfl ?_
      refine g_aload_n (pc := 15) d_BU_mostAccused_15 rfl 3 rfl ?_
      refine g_bgS (pc := 16) d_BU_mostAccused_16 fl_BU_17 hB ?_
      refine g_iload_n (pc := 19) d_BU_mostAccused_19 rfl 0 rfl ?_
      refine g_bsl (pc := 20) d_BU_mostAccused_20 hB (by first | assumption | omega) ?_
      refine g_cV1 (pc := 21) (ci := 4) (As := [.ref _]) d_BU_mostAccused_21 rfl mv_BU_canBeVisited st_BU_mostAccused_148 rfl rfl (by decide) rfl rfl (Nat.le_of_ble_eq_true rfl) hB.1 (cb_canBeVisited hB (by first | assumption | omega)) ?_
      refine g_if_eq (pc := 24) (tgt := 52) d_BU_mostAccused_24 (by decide) (fun c_24 => ?_) (fun c_24 => ?_)
      · skip
        obtain ⟨x_1, hx_1⟩ : ∃ y : Int32, y = (nI i) + 1 := ⟨_, rfl⟩
        refine g_iinc (pc := 52) (w := 0) (v := x_1) (lv' := [(3, .int x_1), (2, .int (P_most B i).2), (1, .int (oI (P_most B i).1)), (0, .ref b)]) d_BU_mostAccused_52 rfl (by rw [hx_1]; rfl) (by decide) rfl ?_
        refine g_goto (pc := 55) (tgt := 6) d_BU_mostAccused_55 (by decide) ?_
        have e8 : x_1 = nI (i + 1) := by rw [hx_1]; exact nI_1 _
        clear hx_1
        subst e8
        try rw [bI_0] at c_24
        have e5 : P_most B (i + 1) = P_most B i := by rw [P_most, if_neg (fun z => by first | exact absurd z.1 (by rw [c_24]; decide) | exact absurd z.2 (Int32.not_lt.mpr c_37))]
        refine g_perm [0, 1, 2, 3] rfl ?_
        rw [← e5]
        exact ih (i + 1) (by omega) (by omega)
      · skip
        refine g_aload_n (pc := 27) d_BU_mostAccused_27 rfl 3 rfl ?_
        refine g_bgS (pc := 28) d_BU_mostAccused_28 fl_BU_17 hB ?_
        refine g_iload_n (pc := 31) d_BU_mostAccused_31 rfl 0 rfl ?_
        refine g_bsl (pc := 32) d_BU_mostAccused_32 hB (by first | assumption | omega) ?_
        refine g_sgI (pc := 33) (f := 8) rfl d_BU_mostAccused_33 fl_BU_101 hB (by first | assumption | omega) ?_
        refine g_iload_n (pc := 36) d_BU_mostAccused_36 rfl 1 rfl ?_
        refine g_icmp_le (pc := 37) (tgt := 52) d_BU_mostAccused_37 (by decide) (fun c_37 => ?_) (fun c_37 => ?_)
        · skip
          obtain ⟨x_2, hx_2⟩ : ∃ y : Int32, y = (nI i) + 1 := ⟨_, rfl⟩
          refine g_iinc (pc := 52) (w := 0) (v := x_2) (lv' := [(3, .int x_2), (2, .int (P_most B i).2), (1, .int (oI (P_most B i).1)), (0, .ref b)]) d_BU_mostAccused_52 rfl (by rw [hx_2]; rfl) (by decide) rfl ?_
          refine g_goto (pc := 55) (tgt := 6) d_BU_mostAccused_55 (by decide) ?_
          have e8 : x_2 = nI (i + 1) := by rw [hx_2]; exact nI_1 _
          clear hx_2
          subst e8
          try rw [bI_0] at c_24
          have e5 : P_most B (i + 1) = P_most B i := by rw [P_most, if_neg (fun z => by first | exact absurd z.1 (by rw [c_24]; decide) | exact absurd z.2 (Int32.not_lt.mpr c_37))]
          refine g_perm [0, 1, 2, 3] rfl ?_
          rw [← e5]
          exact ih (i + 1) (by omega) (by omega)
        · skip
          refine g_iload_n (pc := 40) d_BU_mostAccused_40 rfl 0 rfl ?_
          refine g_istore_n (pc := 41) (lv' := [(1, .int (nI i)), (3, .int (nI i)), (2, .int (P_most B i).2), (0, .ref b)]) d_BU_mostAccused_41 rfl (by decide) rfl ?_
          refine g_aload_n (pc := 42) d_BU_mostAccused_42 rfl 3 rfl ?_
          refine g_bgS (pc := 43) d_BU_mostAccused_43 fl_BU_17 hB ?_
          refine g_iload_n (pc := 46) d_BU_mostAccused_46 rfl 1 rfl ?_
          refine g_bsl (pc := 47) d_BU_mostAccused_47 hB (by first | assumption | omega) ?_
          refine g_sgI (pc := 48) (f := 8) rfl d_BU_mostAccused_48 fl_BU_101 hB (by first | assumption | omega) ?_
          refine g_istore_n (pc := 51) (lv' := [(2, .int (B.2.2 i 8)), (1, .int (nI i)), (3, .int (nI i)), (0, .ref b)]) d_BU_mostAccused_51 rfl (by decide) rfl ?_
          obtain ⟨x_3, hx_3⟩ : ∃ y : Int32, y = (nI i) + 1 := ⟨_, rfl⟩
          refine g_iinc (pc := 52) (w := 2) (v := x_3) (lv' := [(3, .int x_3), (2, .int (B.2.2 i 8)), (1, .int (nI i)), (0, .ref b)]) d_BU_mostAccused_52 rfl (by rw [hx_3]; rfl) (by decide) rfl ?_
          refine g_goto (pc := 55) (tgt := 6) d_BU_mostAccused_55 (by decide) ?_
          have e8 : x_3 = nI (i + 1) := by rw [hx_3]; exact nI_1 _
          clear hx_3
          subst e8
          try rw [bI_0] at c_24
          rw [Bool.not_eq_false] at c_24
          have e5 : P_most B (i + 1) = (some i, B.2.2 i 8) := by rw [P_most, if_pos ⟨c_24, Int32.not_le.mp c_37⟩]
          have e6 : nI i = oI (P_most B (i + 1)).1 := by rw [e5]; rfl
          have e7 : B.2.2 i 8 = (P_most B (i + 1)).2 := by rw [e5]
          refine g_perm [0, 1, 2, 3] rfl ?_
          rw [e6, e7]
          exact ih (i + 1) (by omega) (by omega)
set_option maxRecDepth 20000 in
theorem cb_mostAccused {E : En} {h : Hp} {b sc : Nat} {B : Bu} (hB : BuOk h b) (hs : B.1 8 = nI sc) (hm : sc ≤ 8) : CR E m_BU_mostAccused [.ref b] (wB h b B) (some (.int (oI (P_most B sc).1))) (wB h b B) := by
  refine ct_of rfl (by decide +kernel) (Nat.le_of_ble_eq_true rfl) ?_
  show G E m_BU_mostAccused 0 [(0, .ref b)] [] (wB h b B) 0 0 _ noX
  refine g_iconst (pc := 0) (v := (-1)) d_BU_mostAccused_0 (by decide) ?_
  refine g_nameI (fun x_1 hx_1 => ?_)
  refine g_istore_n (pc := 1) (lv' := [(1, .int x_1), (0, .ref b)]) d_BU_mostAccused_1 rfl (by decide) rfl ?_
  refine g_iconst (pc := 2) (v := 0) d_BU_mostAccused_2 (by decide) ?_
  refine g_nameI (fun x_2 hx_2 => ?_)
  refine g_istore_n (pc := 3) (lv' := [(2, .int x_2), (1, .int x_1), (0, .ref b)]) d_BU_mostAccused_3 rfl (by decide) rfl ?_
  refine g_iconst (pc := 4) (v := 0) d_BU_mostAccused_4 (by decide) ?_
  refine g_nameI (fun x_3 hx_3 => ?_)
  refine g_istore_n (pc := 5) (lv' := [(3, .int x_3), (2, .int x_2), (1, .int x_1), (0, .ref b)]) d_BU_mostAccused_5 rfl (by decide) rfl ?_
  subst hx_1
  subst hx_2
  subst hx_3
  exact lp_BU_mostAccused hB hs hm (sc + 1) 0 (Nat.zero_le _) (by omega)
theorem lp_BU_nextToVisitFrom {E : En} {h : Hp} {b sc : Nat} {B : Bu} {j0 : Int32} (hB : BuOk h b) (hs : B.1 8 = nI sc) (hm : sc ≤ 8) : ∀ (d i j : Nat), i ≤ sc → j < sc → sc - i < d → G E m_BU_nextToVisitFrom 4 [(3, .int (nI i)), (2, .int (nI j)), (0, .ref b), (1, .int j0)] [] (wB h b B) 0 0 (fun v h' => v = some (.int (oI (P_next B sc (sc - i) j))) ∧ h' = wB h b B) noX := by
  intro d
  induction d with
  | zero => intros; omega
  | succ d ih =>
    intro i j hi hj hd
    refine g_iload_n (pc := 4) d_BU_nextToVisitFrom_4 rfl 0 rfl ?_
    refine g_aload_n (pc := 5) d_BU_nextToVisitFrom_5 rfl 2 rfl ?_
    refine g_bgI (pc := 6) (f := 8) rfl d_BU_nextToVisitFrom_6 fl_BU_56 hB ?_
    refine g_icmp_ge (pc := 9) (tgt := 51) d_BU_nextToVisitFrom_9 (by decide) (fun c_9 => ?_) (fun c_9 => ?_)
    · skip
      have e9 : i = sc := by rw [hs] at c_9; have := (nI_leI (by omega) (by omega)).mp c_9; omega
      refine g_iconst (pc := 51) (v := (-1)) d_BU_nextToVisitFrom_51 (by decide) ?_
      refine g_iret (pc := 52) d_BU_nextToVisitFrom_52 rfl ?_
      rw [show sc - i = 0 by omega]
      exact ⟨rfl, rfl⟩
    · skip
      have e9 : i < sc := by rw [hs] at c_9; exact Nat.lt_of_not_le (fun z => c_9 ((nI_leI (by omega) (by omega)).mpr z))
      refine g_aload_n (pc := 12) d_BU_nextToVisitFrom_12 rfl 2 rfl ?_
      refine g_aload_n (pc := 13) d_BU_nextToVisitFrom_13 rfl 2 rfl ?_
      refine g_bgS (pc := 14) d_BU_nextToVisitFrom_14 fl_BU_17 hB ?_
      refine g_iload_n (pc := 17) d_BU_nextToVisitFrom_17 rfl 1 rfl ?_
      refine g_bsl (pc := 18) d_BU_nextToVisitFrom_18 hB (by first | assumption | omega) ?_
      refine g_cV1 (pc := 19) (ci := 4) (As := [.ref _]) d_BU_nextToVisitFrom_19 rfl mv_BU_canBeVisited st_BU_nextToVisitFrom_148 rfl rfl (by decide) rfl rfl (Nat.le_of_ble_eq_true rfl) hB.1 (cb_canBeVisited hB (by first | assumption | omega)) ?_
      refine g_if_eq (pc := 22) (tgt := 27) d_BU_nextToVisitFrom_22 (by decide) (fun c_22 => ?_) (fun c_22 => ?_)
      · skip
        refine g_iload_n (pc := 27) d_BU_nextToVisitFrom_27 rfl 1 rfl ?_
        refine g_iconst (pc := 28) (v := 1) d_BU_nextToVisitFrom_28 (by decide) ?_
        refine g_iadd (pc := 29) d_BU_nextToVisitFrom_29 ?_
        refine g_aload_n (pc := 30) d_BU_nextToVisitFrom_30 rfl 2 rfl ?_
        refine g_bgI (pc := 31) (f := 8) rfl d_BU_nextToVisitFrom_31 fl_BU_56 hB ?_
        refine g_icmp_ge (pc := 34) (tgt := 43) d_BU_nextToVisitFrom_34 (by decide) (fun c_34 => ?_) (fun c_34 => ?_)
        · skip
          refine g_iconst (pc := 43) (v := 0) d_BU_nextToVisitFrom_43 (by decide) ?_
          refine g_nameI (fun x_1 hx_1 => ?_)
          refine g_istore_n (pc := 44) (lv' := [(2, .int x_1), (3, .int (nI i)), (0, .ref b), (1, .int j0)]) d_BU_nextToVisitFrom_44 rfl (by decide) rfl ?_
          obtain ⟨x_2, hx_2⟩ : ∃ y : Int32, y = (nI i) + 1 := ⟨_, rfl⟩
          refine g_iinc (pc := 45) (w := 1) (v := x_2) (lv' := [(3, .int x_2), (2, .int x_1), (0, .ref b), (1, .int j0)]) d_BU_nextToVisitFrom_45 rfl (by rw [hx_2]; rfl) (by decide) rfl ?_
          refine g_goto (pc := 48) (tgt := 4) d_BU_nextToVisitFrom_48 (by decide) ?_
          rw [bI_0] at c_22
          have e8 : x_2 = nI (i + 1) := by rw [hx_2]; exact nI_1 _
          clear hx_2
          subst e8
          have e7 : x_1 = nI (if j + 1 < sc then j + 1 else 0) := by
            rw [hx_1]
            rw [hs] at c_34
            try rw [nI_1] at c_34
            try rw [nI_1]
            first | (rw [if_neg (fun z => absurd ((nI_leI (by omega) (by omega)).mp c_34) (by omega))]; done) | (rw [if_neg (fun z => absurd ((nI_leI (by omega) (by omega)).mp c_34) (by omega))]; rfl) | rw [if_pos (Nat.lt_of_not_le fun z => c_34 ((nI_leI (by omega) (by omega)).mpr z))]
          clear hx_1
          subst e7
          refine g_perm [0, 1, 2, 3] rfl ?_
          have e6 : P_next B sc (sc - i) j = P_next B sc (sc - (i + 1)) (if j + 1 < sc then j + 1 else 0) := by
            rw [show sc - i = (sc - (i + 1)) + 1 by omega, P_next, if_neg (by rw [c_22]; decide)]
          rw [e6]
          exact ih (i + 1) _ (by omega) (by split <;> omega) (by omega)
        · skip
          refine g_iload_n (pc := 37) d_BU_nextToVisitFrom_37 rfl 1 rfl ?_
          refine g_iconst (pc := 38) (v := 1) d_BU_nextToVisitFrom_38 (by decide) ?_
          refine g_iadd (pc := 39) d_BU_nextToVisitFrom_39 ?_
          refine g_goto (pc := 40) (tgt := 44) d_BU_nextToVisitFrom_40 (by decide) ?_
          refine g_nameI (fun x_3 hx_3 => ?_)
          refine g_istore_n (pc := 44) (lv' := [(2, .int x_3), (3, .int (nI i)), (0, .ref b), (1, .int j0)]) d_BU_nextToVisitFrom_44 rfl (by decide) rfl ?_
          obtain ⟨x_4, hx_4⟩ : ∃ y : Int32, y = (nI i) + 1 := ⟨_, rfl⟩
          refine g_iinc (pc := 45) (w := 1) (v := x_4) (lv' := [(3, .int x_4), (2, .int x_3), (0, .ref b), (1, .int j0)]) d_BU_nextToVisitFrom_45 rfl (by rw [hx_4]; rfl) (by decide) rfl ?_
          refine g_goto (pc := 48) (tgt := 4) d_BU_nextToVisitFrom_48 (by decide) ?_
          rw [bI_0] at c_22
          have e8 : x_4 = nI (i + 1) := by rw [hx_4]; exact nI_1 _
          clear hx_4
          subst e8
          have e7 : x_3 = nI (if j + 1 < sc then j + 1 else 0) := by
            rw [hx_3]
            rw [hs] at c_34
            try rw [nI_1] at c_34
            try rw [nI_1]
            first | (rw [if_neg (fun z => absurd ((nI_leI (by omega) (by omega)).mp c_34) (by omega))]; done) | (rw [if_neg (fun z => absurd ((nI_leI (by omega) (by omega)).mp c_34) (by omega))]; rfl) | rw [if_pos (Nat.lt_of_not_le fun z => c_34 ((nI_leI (by omega) (by omega)).mpr z))]
          clear hx_3
          subst e7
          refine g_perm [0, 1, 2, 3] rfl ?_
          have e6 : P_next B sc (sc - i) j = P_next B sc (sc - (i + 1)) (if j + 1 < sc then j + 1 else 0) := by
            rw [show sc - i = (sc - (i + 1)) + 1 by omega, P_next, if_neg (by rw [c_22]; decide)]
          rw [e6]
          exact ih (i + 1) _ (by omega) (by split <;> omega) (by omega)
      · skip
        refine g_iload_n (pc := 25) d_BU_nextToVisitFrom_25 rfl 1 rfl ?_
        refine g_iret (pc := 26) d_BU_nextToVisitFrom_26 rfl ?_
        rw [bI_0, Bool.not_eq_false] at c_22
        rw [show sc - i = (sc - (i + 1)) + 1 by omega, P_next, if_pos c_22]
        exact ⟨rfl, rfl⟩
set_option maxRecDepth 20000 in
theorem cb_nextToVisitFrom {E : En} {h : Hp} {b sc j : Nat} {B : Bu} (hB : BuOk h b) (hs : B.1 8 = nI sc) (hm : sc ≤ 8) (hj : j < sc) : CR E m_BU_nextToVisitFrom [.ref b, .int (nI j)] (wB h b B) (some (.int (oI (P_next B sc sc j)))) (wB h b B) := by
  refine ct_of rfl (by decide +kernel) (Nat.le_of_ble_eq_true rfl) ?_
  show G E m_BU_nextToVisitFrom 0 [(0, .ref b), (1, .int (nI j))] [] (wB h b B) 0 0 _ noX
  refine g_iload_n (pc := 0) d_BU_nextToVisitFrom_0 rfl 1 rfl ?_
  refine g_istore_n (pc := 1) (lv' := [(2, .int (nI j)), (0, .ref b), (1, .int (nI j))]) d_BU_nextToVisitFrom_1 rfl (by decide) rfl ?_
  refine g_iconst (pc := 2) (v := 0) d_BU_nextToVisitFrom_2 (by decide) ?_
  refine g_nameI (fun x_1 hx_1 => ?_)
  refine g_istore_n (pc := 3) (lv' := [(3, .int x_1), (2, .int (nI j)), (0, .ref b), (1, .int (nI j))]) d_BU_nextToVisitFrom_3 rfl (by decide) rfl ?_
  subst hx_1
  exact lp_BU_nextToVisitFrom hB hs hm (sc + 1) 0 j (Nat.zero_le _) hj (by omega)
