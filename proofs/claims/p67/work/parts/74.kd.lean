/-! THE LAW: visit -/
theorem M_exc_congr {c c' s s' : Nat → Int32} {g : Int32} (h0 : c' 0 = c 0) (h1 : c' 1 = c 1) (h2 : s' 1 = s 1) (h3 : s' 2 = s 2) : M_exc c' s' g = M_exc c s g := by
  unfold M_exc M_err M_bound
  rw [h0, h1, h2, h3]
theorem M_tot_congr9 {c c' w s s' : Nat → Int32} (h0 : c' 0 = c 0) (h1 : c' 1 = c 1) (h2 : s' 1 = s 1) (h3 : s' 2 = s 2) : ∀ n, M_tot c' w s' n = M_tot c w s n
  | 0 => rfl
  | n + 1 => by
    show M_tot c' w s' n + M_exc c' s' (w n) = M_tot c w s n + M_exc c s (w n)
    rw [M_tot_congr9 h0 h1 h2 h3 n, M_exc_congr h0 h1 h2 h3]
theorem P_fails_congr {B B' : Bu} {i nw : Nat} (h0 : B'.1 0 = B.1 0) (h1 : B'.1 1 = B.1 1) (h2 : B'.2.2 i 1 = B.2.2 i 1) (h3 : B'.2.2 i 2 = B.2.2 i 2) (hw : B'.2.1 = B.2.1) (h9 : B'.1 9 = B.1 9) (h11 : B'.2.2 i 11 = B.2.2 i 11) : P_fails B' i nw = P_fails B i nw := by
  unfold P_fails M_stamped
  rw [hw, M_tot_congr9 h0 h1 h2 h3, h9, h11]
theorem hp_6 : hp 6 = 6 := rfl
theorem hp_7 : hp 7 = 9 := rfl
theorem hp_8 : hp 8 = 10 := rfl
theorem hp_9 : hp 9 = 11 := rfl
theorem hp_3 : hp 3 = 3 := rfl
theorem sS_1 (B : Bu) (i : Nat) (s : Nat → Int32) : (sS B i s).1 = B.1 := rfl
theorem sS_2 (B : Bu) (i : Nat) (s : Nat → Int32) : (sS B i s).2.1 = B.2.1 := rfl
theorem sS_3 (B : Bu) (i : Nat) (s : Nat → Int32) : (sS B i s).2.2 i = s := u1_same _ _ _
theorem sC_1 (B : Bu) (c : Nat → Int32) : (sC B c).1 = c := rfl
theorem sC_2 (B : Bu) (c : Nat → Int32) : (sC B c).2 = B.2 := rfl
theorem sS_S (B : Bu) (i : Nat) (s r : Nat → Int32) : sS (sS B i s) i r = sS B i r := by
  show (B.1, B.2.1, u1 (u1 B.2.2 i s) i r) = (B.1, B.2.1, u1 B.2.2 i r)
  rw [u1_u1]
theorem sC_S (B : Bu) (i : Nat) (s c : Nat → Int32) : sC (sS B i s) c = sS (sC B c) i s := rfl
theorem sC_C (B : Bu) (c d : Nat → Int32) : sC (sC B c) d = sC B d := rfl
theorem P_fails_t {B : Bu} {i nw : Nat} (hf : P_fails B i nw = true) : 0 < M_tot B.1 B.2.1 (B.2.2 i) nw ∨ M_stamped (B.2.2 i) (B.1 9) = false := by
  unfold P_fails at hf
  cases e : M_stamped (B.2.2 i) (B.1 9) with
  | false => exact Or.inr rfl
  | true => rw [e] at hf; left; simpa using hf
theorem P_fails_f {B : Bu} {i nw : Nat} (hf : P_fails B i nw = false) : ¬ (0 < M_tot B.1 B.2.1 (B.2.2 i) nw ∨ M_stamped (B.2.2 i) (B.1 9) = false) := by
  unfold P_fails at hf
  rintro (z | z)
  · rw [decide_eq_true z] at hf; cases hf
  · rw [z] at hf; simp at hf
theorem tot_pos {c w s : Nat → Int32} {n : Nat} : (0 < M_tot c w s n) ∨ ¬ (0 < M_tot c w s n) := Decidable.em _

set_option maxRecDepth 20000 in
theorem cl_LW_visit {E : En} {h : Hp} {lb nw sc i : Nat} {B : Bu} (HL : LbOk h lb nw sc) (hi : i < sc) : CR E m_LW_visit [.ref lb, .ref (tw h lb i)] (wT h lb sc B) (some (.int (P_fine B i nw))) ((wT h lb sc (P_ins B i nw))) := by
  refine ct_of rfl (by decide +kernel) (Nat.le_of_ble_eq_true rfl) ?_
  show G E m_LW_visit 0 [(0, .ref lb), (1, .ref (tw h lb i))] [] (wT h lb sc B) 0 0 _ noX
  refine g_aload_n (pc := 0) d_LW_visit_0 rfl 0 rfl ?_
  refine g_aload_n (pc := 1) d_LW_visit_1 rfl 1 rfl ?_
  refine g_cS1 (pc := 2) (As := [.ref _, .ref _]) d_LW_visit_2 rfl ms_LW_fine st_LW_visit_138 rfl rfl (Nat.le_of_ble_eq_true rfl) (cl_LW_fine HL hi) ?_
  refine g_istore_n (pc := 5) (lv' := [(2, .int (P_fine B i nw)), (0, .ref lb), (1, .ref (tw h lb i))]) d_LW_visit_5 rfl (by decide) rfl ?_
  refine g_aload_n (pc := 6) d_LW_visit_6 rfl 1 rfl ?_
  refine g_th0 (pc := 7) d_LW_visit_7 fl_LW_30 HL ?_
  refine g_bipush (pc := 10) (v := 9) d_LW_visit_10 (by decide) ?_
  refine g_dup2 (pc := 12) d_LW_visit_12 rfl rfl ?_
  refine g_thl (pc := 13) (j := 9) d_LW_visit_13 HL (by decide) ?_
  refine g_iconst (pc := 14) (v := 1) d_LW_visit_14 (by decide) ?_
  refine g_iadd (pc := 15) d_LW_visit_15 ?_
  refine g_ths (pc := 16) (j := 9) d_LW_visit_16 HL (by decide) ?_
  refine g_aload_n (pc := 17) d_LW_visit_17 rfl 2 rfl ?_
  refine g_aload_n (pc := 18) d_LW_visit_18 rfl 1 rfl ?_
  refine g_th0 (pc := 19) d_LW_visit_19 fl_LW_30 HL ?_
  refine g_bipush (pc := 22) (v := 7) d_LW_visit_22 (by decide) ?_
  refine g_thl (pc := 24) (j := 7) d_LW_visit_24 HL (by decide) ?_
  refine g_ttp (pc := 25) (f := 10) rfl d_LW_visit_25 fl_LW_141 (fun q hq => by cases hq; exact rfl) rfl rfl HL (by first | assumption | omega) ?_
  refine g_aload_n (pc := 28) d_LW_visit_28 rfl 2 rfl ?_
  refine g_iconst (pc := 29) (v := 0) d_LW_visit_29 (by decide) ?_
  refine g_ttp (pc := 30) (f := 8) rfl d_LW_visit_30 fl_LW_144 (fun q hq => by cases hq; exact rfl) rfl rfl HL (by first | assumption | omega) ?_
  refine g_aload_n (pc := 33) d_LW_visit_33 rfl 1 rfl ?_
  refine g_aload_n (pc := 34) d_LW_visit_34 rfl 2 rfl ?_
  refine g_cS1 (pc := 35) (As := [.ref _, .ref _]) d_LW_visit_35 rfl ms_LW_fails st_LW_visit_147 rfl rfl (Nat.le_of_ble_eq_true rfl) (cl_LW_fails HL hi) ?_
  refine g_top (congrArg bI (P_fails_congr (B := B) (by simp [sS_1, sS_2, sS_3, sC_1, sC_2, hp_7, hp_8, hp_9, hp_3, u1_at]) (by simp [sS_1, sS_2, sS_3, sC_1, sC_2, hp_7, hp_8, hp_9, hp_3, u1_at]) (by simp [sS_1, sS_2, sS_3, sC_1, sC_2, hp_7, hp_8, hp_9, hp_3, u1_at]) (by simp [sS_1, sS_2, sS_3, sC_1, sC_2, hp_7, hp_8, hp_9, hp_3, u1_at]) rfl (by simp [sS_1, sS_2, sS_3, sC_1, sC_2, hp_7, hp_8, hp_9, hp_3, u1_at]) (by simp [sS_1, sS_2, sS_3, sC_1, sC_2, hp_7, hp_8, hp_9, hp_3, u1_at]))) ?_
  refine g_if_eq (pc := 38) (tgt := 82) d_LW_visit_38 (by decide) (fun c_38 => ?_) (fun c_38 => ?_)
  · skip
    have hf : P_fails B i nw = false := bI_0.mp c_38
    have hc := P_fails_f hf
    refine g_aload_n (pc := 82) d_LW_visit_82 rfl 1 rfl ?_
    refine g_aload_n (pc := 83) d_LW_visit_83 rfl 2 rfl ?_
    refine g_cS1 (pc := 84) (As := [.ref _, .ref _]) d_LW_visit_84 rfl ms_LW_total st_LW_visit_131 rfl rfl (Nat.le_of_ble_eq_true rfl) (cl_LW_total HL hi) ?_
    refine g_top (M_tot_congr9 (c := B.1) (s := B.2.2 i) (by simp [sS_1, sS_2, sS_3, sC_1, sC_2, hp_7, hp_8, hp_9, hp_3, u1_at]) (by simp [sS_1, sS_2, sS_3, sC_1, sC_2, hp_7, hp_8, hp_9, hp_3, u1_at]) (by simp [sS_1, sS_2, sS_3, sC_1, sC_2, hp_7, hp_8, hp_9, hp_3, u1_at]) (by simp [sS_1, sS_2, sS_3, sC_1, sC_2, hp_7, hp_8, hp_9, hp_3, u1_at]) nw) ?_
    refine g_if_le (pc := 87) (tgt := 100) d_LW_visit_87 (by decide) (fun c_87 => ?_) (fun c_87 => ?_)
    · skip
      have ht : ¬ 0 < M_tot B.1 B.2.1 (B.2.2 i) nw := Int32.not_lt.mpr c_87
      refine g_aload_n (pc := 100) d_LW_visit_100 rfl 2 rfl ?_
      refine g_aload_n (pc := 101) d_LW_visit_101 rfl 1 rfl ?_
      refine g_th0 (pc := 102) d_LW_visit_102 fl_LW_30 HL ?_
      refine g_bipush (pc := 105) (v := 7) d_LW_visit_105 (by decide) ?_
      refine g_thl (pc := 107) (j := 7) d_LW_visit_107 HL (by decide) ?_
      refine g_aload_n (pc := 108) d_LW_visit_108 rfl 1 rfl ?_
      refine g_th0 (pc := 109) d_LW_visit_109 fl_LW_30 HL ?_
      refine g_iconst (pc := 112) (v := 3) d_LW_visit_112 (by decide) ?_
      refine g_thl (pc := 113) (j := 3) d_LW_visit_113 HL (by decide) ?_
      refine g_iadd (pc := 114) d_LW_visit_114 ?_
      refine g_ttp (pc := 115) (f := 11) rfl d_LW_visit_115 fl_LW_135 (fun q hq => by cases hq; exact rfl) rfl rfl HL (by first | assumption | omega) ?_
      refine g_aload_n (pc := 118) d_LW_visit_118 rfl 2 rfl ?_
      refine g_ttI (pc := 119) (f := 9) rfl d_LW_visit_119 fl_LW_154 HL (by first | assumption | omega) ?_
      refine g_iconst (pc := 122) (v := 3) d_LW_visit_122 (by decide) ?_
      refine g_icmp_lt (pc := 123) (tgt := 131) d_LW_visit_123 (by decide) (fun c_123 => ?_) (fun c_123 => ?_)
      · skip
        refine g_iload_n (pc := 131) d_LW_visit_131 rfl 0 rfl ?_
        refine g_iret (pc := 132) d_LW_visit_132 rfl ?_
        refine ⟨rfl, congrArg (wT h lb sc) ?_⟩
        simp only [sS_1, sS_2, sS_3, sC_1, sC_2, sC_S, sS_S, sC_C, hp_7, hp_8, hp_9, hp_3, u1_at, P_fine, Nat.reduceEqDiff, reduceIte, reduceCtorEq] at c_123 ⊢
        first | have c3 := Int32.not_le.mpr c_123 | have c3 := Int32.not_lt.mp c_123
        simp only [P_ins, M_visS, M_visC, M_straight]
        first | simp only [if_pos hc] | simp only [if_neg hc]
        first | simp only [if_neg ht] | simp only [if_pos (show 0 < M_tot B.1 B.2.1 (B.2.2 i) nw from ht)]
        simp only [u1_at, Nat.reduceEqDiff, reduceIte]
        first | rw [if_neg c3] | rw [if_pos c3]
        rfl
      · skip
        refine g_aload_n (pc := 126) d_LW_visit_126 rfl 2 rfl ?_
        refine g_iconst (pc := 127) (v := 0) d_LW_visit_127 (by decide) ?_
        refine g_ttp (pc := 128) (f := 12) rfl d_LW_visit_128 fl_LW_157 (fun q hq => by cases hq; exact rfl) (by rfl) (by rfl) HL (by first | assumption | omega) ?_
        refine g_iload_n (pc := 131) d_LW_visit_131 rfl 0 rfl ?_
        refine g_iret (pc := 132) d_LW_visit_132 rfl ?_
        refine ⟨rfl, congrArg (wT h lb sc) ?_⟩
        simp only [sS_1, sS_2, sS_3, sC_1, sC_2, sC_S, sS_S, sC_C, hp_7, hp_8, hp_9, hp_3, u1_at, P_fine, Nat.reduceEqDiff, reduceIte, reduceCtorEq] at c_123 ⊢
        first | have c3 := Int32.not_le.mpr c_123 | have c3 := Int32.not_lt.mp c_123
        simp only [P_ins, M_visS, M_visC, M_straight]
        first | simp only [if_pos hc] | simp only [if_neg hc]
        first | simp only [if_neg ht] | simp only [if_pos (show 0 < M_tot B.1 B.2.1 (B.2.2 i) nw from ht)]
        simp only [u1_at, Nat.reduceEqDiff, reduceIte]
        first | rw [if_neg c3] | rw [if_pos c3]
        rfl
    · skip
      have ht : 0 < M_tot B.1 B.2.1 (B.2.2 i) nw := Int32.not_le.mp c_87
      refine g_aload_n (pc := 90) d_LW_visit_90 rfl 2 rfl ?_
      refine g_iconst (pc := 91) (v := 0) d_LW_visit_91 (by decide) ?_
      refine g_ttp (pc := 92) (f := 1) rfl d_LW_visit_92 fl_LW_75 (fun q hq => by cases hq; exact rfl) rfl rfl HL (by first | assumption | omega) ?_
      refine g_aload_n (pc := 95) d_LW_visit_95 rfl 2 rfl ?_
      refine g_iconst (pc := 96) (v := 0) d_LW_visit_96 (by decide) ?_
      refine g_ttp (pc := 97) (f := 2) rfl d_LW_visit_97 fl_LW_78 (fun q hq => by cases hq; exact rfl) rfl rfl HL (by first | assumption | omega) ?_
      refine g_aload_n (pc := 100) d_LW_visit_100 rfl 2 rfl ?_
      refine g_aload_n (pc := 101) d_LW_visit_101 rfl 1 rfl ?_
      refine g_th0 (pc := 102) d_LW_visit_102 fl_LW_30 HL ?_
      refine g_bipush (pc := 105) (v := 7) d_LW_visit_105 (by decide) ?_
      refine g_thl (pc := 107) (j := 7) d_LW_visit_107 HL (by decide) ?_
      refine g_aload_n (pc := 108) d_LW_visit_108 rfl 1 rfl ?_
      refine g_th0 (pc := 109) d_LW_visit_109 fl_LW_30 HL ?_
      refine g_iconst (pc := 112) (v := 3) d_LW_visit_112 (by decide) ?_
      refine g_thl (pc := 113) (j := 3) d_LW_visit_113 HL (by decide) ?_
      refine g_iadd (pc := 114) d_LW_visit_114 ?_
      refine g_ttp (pc := 115) (f := 11) rfl d_LW_visit_115 fl_LW_135 (fun q hq => by cases hq; exact rfl) rfl rfl HL (by first | assumption | omega) ?_
      refine g_aload_n (pc := 118) d_LW_visit_118 rfl 2 rfl ?_
      refine g_ttI (pc := 119) (f := 9) rfl d_LW_visit_119 fl_LW_154 HL (by first | assumption | omega) ?_
      refine g_iconst (pc := 122) (v := 3) d_LW_visit_122 (by decide) ?_
      refine g_icmp_lt (pc := 123) (tgt := 131) d_LW_visit_123 (by decide) (fun c_123 => ?_) (fun c_123 => ?_)
      · skip
        refine g_iload_n (pc := 131) d_LW_visit_131 rfl 0 rfl ?_
        refine g_iret (pc := 132) d_LW_visit_132 rfl ?_
        refine ⟨rfl, congrArg (wT h lb sc) ?_⟩
        simp only [sS_1, sS_2, sS_3, sC_1, sC_2, sC_S, sS_S, sC_C, hp_7, hp_8, hp_9, hp_3, u1_at, P_fine, Nat.reduceEqDiff, reduceIte, reduceCtorEq] at c_123 ⊢
        first | have c3 := Int32.not_le.mpr c_123 | have c3 := Int32.not_lt.mp c_123
        simp only [P_ins, M_visS, M_visC, M_straight]
        first | simp only [if_pos hc] | simp only [if_neg hc]
        first | simp only [if_neg ht] | simp only [if_pos (show 0 < M_tot B.1 B.2.1 (B.2.2 i) nw from ht)]
        simp only [u1_at, Nat.reduceEqDiff, reduceIte]
        first | rw [if_neg c3] | rw [if_pos c3]
        rfl
      · skip
        refine g_aload_n (pc := 126) d_LW_visit_126 rfl 2 rfl ?_
        refine g_iconst (pc := 127) (v := 0) d_LW_visit_127 (by decide) ?_
        refine g_ttp (pc := 128) (f := 12) rfl d_LW_visit_128 fl_LW_157 (fun q hq => by cases hq; exact rfl) (by rfl) (by rfl) HL (by first | assumption | omega) ?_
        refine g_iload_n (pc := 131) d_LW_visit_131 rfl 0 rfl ?_
        refine g_iret (pc := 132) d_LW_visit_132 rfl ?_
        refine ⟨rfl, congrArg (wT h lb sc) ?_⟩
        simp only [sS_1, sS_2, sS_3, sC_1, sC_2, sC_S, sS_S, sC_C, hp_7, hp_8, hp_9, hp_3, u1_at, P_fine, Nat.reduceEqDiff, reduceIte, reduceCtorEq] at c_123 ⊢
        first | have c3 := Int32.not_le.mpr c_123 | have c3 := Int32.not_lt.mp c_123
        simp only [P_ins, M_visS, M_visC, M_straight]
        first | simp only [if_pos hc] | simp only [if_neg hc]
        first | simp only [if_neg ht] | simp only [if_pos (show 0 < M_tot B.1 B.2.1 (B.2.2 i) nw from ht)]
        simp only [u1_at, Nat.reduceEqDiff, reduceIte]
        first | rw [if_neg c3] | rw [if_pos c3]
        rfl
  · skip
    have hf : P_fails B i nw = true := bI_n0 c_38
    have hc := P_fails_t hf
    refine g_aload_n (pc := 41) d_LW_visit_41 rfl 2 rfl ?_
    refine g_dup (pc := 42) d_LW_visit_42 rfl ?_
    refine g_ttI (pc := 43) (f := 0) rfl d_LW_visit_43 fl_LW_71 HL (by first | assumption | omega) ?_
    refine g_iload_n (pc := 46) d_LW_visit_46 rfl 0 rfl ?_
    refine g_isub (pc := 47) d_LW_visit_47 ?_
    refine g_ttp (pc := 48) (f := 0) rfl d_LW_visit_48 fl_LW_71 (fun q hq => by cases hq; exact rfl) rfl rfl HL (by first | assumption | omega) ?_
    refine g_aload_n (pc := 51) d_LW_visit_51 rfl 2 rfl ?_
    refine g_dup (pc := 52) d_LW_visit_52 rfl ?_
    refine g_ttI (pc := 53) (f := 13) rfl d_LW_visit_53 fl_LW_151 HL (by first | assumption | omega) ?_
    refine g_iload_n (pc := 56) d_LW_visit_56 rfl 0 rfl ?_
    refine g_iadd (pc := 57) d_LW_visit_57 ?_
    refine g_ttp (pc := 58) (f := 13) rfl d_LW_visit_58 fl_LW_151 (fun q hq => by cases hq; exact rfl) rfl rfl HL (by first | assumption | omega) ?_
    refine g_aload_n (pc := 61) d_LW_visit_61 rfl 2 rfl ?_
    refine g_dup (pc := 62) d_LW_visit_62 rfl ?_
    refine g_ttI (pc := 63) (f := 9) rfl d_LW_visit_63 fl_LW_154 HL (by first | assumption | omega) ?_
    refine g_iconst (pc := 66) (v := 1) d_LW_visit_66 (by decide) ?_
    refine g_iadd (pc := 67) d_LW_visit_67 ?_
    refine g_ttp (pc := 68) (f := 9) rfl d_LW_visit_68 fl_LW_154 (fun q hq => by cases hq; exact rfl) rfl rfl HL (by first | assumption | omega) ?_
    refine g_aload_n (pc := 71) d_LW_visit_71 rfl 1 rfl ?_
    refine g_th0 (pc := 72) d_LW_visit_72 fl_LW_30 HL ?_
    refine g_bipush (pc := 75) (v := 8) d_LW_visit_75 (by decide) ?_
    refine g_dup2 (pc := 77) d_LW_visit_77 rfl rfl ?_
    refine g_thl (pc := 78) (j := 8) d_LW_visit_78 HL (by decide) ?_
    refine g_iload_n (pc := 79) d_LW_visit_79 rfl 0 rfl ?_
    refine g_iadd (pc := 80) d_LW_visit_80 ?_
    refine g_ths (pc := 81) (j := 8) d_LW_visit_81 HL (by decide) ?_
    refine g_aload_n (pc := 82) d_LW_visit_82 rfl 1 rfl ?_
    refine g_aload_n (pc := 83) d_LW_visit_83 rfl 2 rfl ?_
    refine g_cS1 (pc := 84) (As := [.ref _, .ref _]) d_LW_visit_84 rfl ms_LW_total st_LW_visit_131 rfl rfl (Nat.le_of_ble_eq_true rfl) (cl_LW_total HL hi) ?_
    refine g_top (M_tot_congr9 (c := B.1) (s := B.2.2 i) (by simp [sS_1, sS_2, sS_3, sC_1, sC_2, hp_7, hp_8, hp_9, hp_3, u1_at]) (by simp [sS_1, sS_2, sS_3, sC_1, sC_2, hp_7, hp_8, hp_9, hp_3, u1_at]) (by simp [sS_1, sS_2, sS_3, sC_1, sC_2, hp_7, hp_8, hp_9, hp_3, u1_at]) (by simp [sS_1, sS_2, sS_3, sC_1, sC_2, hp_7, hp_8, hp_9, hp_3, u1_at]) nw) ?_
    refine g_if_le (pc := 87) (tgt := 100) d_LW_visit_87 (by decide) (fun c_87 => ?_) (fun c_87 => ?_)
    · skip
      have ht : ¬ 0 < M_tot B.1 B.2.1 (B.2.2 i) nw := Int32.not_lt.mpr c_87
      refine g_aload_n (pc := 100) d_LW_visit_100 rfl 2 rfl ?_
      refine g_aload_n (pc := 101) d_LW_visit_101 rfl 1 rfl ?_
      refine g_th0 (pc := 102) d_LW_visit_102 fl_LW_30 HL ?_
      refine g_bipush (pc := 105) (v := 7) d_LW_visit_105 (by decide) ?_
      refine g_thl (pc := 107) (j := 7) d_LW_visit_107 HL (by decide) ?_
      refine g_aload_n (pc := 108) d_LW_visit_108 rfl 1 rfl ?_
      refine g_th0 (pc := 109) d_LW_visit_109 fl_LW_30 HL ?_
      refine g_iconst (pc := 112) (v := 3) d_LW_visit_112 (by decide) ?_
      refine g_thl (pc := 113) (j := 3) d_LW_visit_113 HL (by decide) ?_
      refine g_iadd (pc := 114) d_LW_visit_114 ?_
      refine g_ttp (pc := 115) (f := 11) rfl d_LW_visit_115 fl_LW_135 (fun q hq => by cases hq; exact rfl) rfl rfl HL (by first | assumption | omega) ?_
      refine g_aload_n (pc := 118) d_LW_visit_118 rfl 2 rfl ?_
      refine g_ttI (pc := 119) (f := 9) rfl d_LW_visit_119 fl_LW_154 HL (by first | assumption | omega) ?_
      refine g_iconst (pc := 122) (v := 3) d_LW_visit_122 (by decide) ?_
      refine g_icmp_lt (pc := 123) (tgt := 131) d_LW_visit_123 (by decide) (fun c_123 => ?_) (fun c_123 => ?_)
      · skip
        refine g_iload_n (pc := 131) d_LW_visit_131 rfl 0 rfl ?_
        refine g_iret (pc := 132) d_LW_visit_132 rfl ?_
        refine ⟨rfl, congrArg (wT h lb sc) ?_⟩
        simp only [sS_1, sS_2, sS_3, sC_1, sC_2, sC_S, sS_S, sC_C, hp_7, hp_8, hp_9, hp_3, u1_at, P_fine, Nat.reduceEqDiff, reduceIte, reduceCtorEq] at c_123 ⊢
        first | have c3 := Int32.not_le.mpr c_123 | have c3 := Int32.not_lt.mp c_123
        simp only [P_ins, M_visS, M_visC, M_straight]
        first | simp only [if_pos hc] | simp only [if_neg hc]
        first | simp only [if_neg ht] | simp only [if_pos (show 0 < M_tot B.1 B.2.1 (B.2.2 i) nw from ht)]
        simp only [u1_at, Nat.reduceEqDiff, reduceIte]
        first | rw [if_neg c3] | rw [if_pos c3]
        rfl
      · skip
        refine g_aload_n (pc := 126) d_LW_visit_126 rfl 2 rfl ?_
        refine g_iconst (pc := 127) (v := 0) d_LW_visit_127 (by decide) ?_
        refine g_ttp (pc := 128) (f := 12) rfl d_LW_visit_128 fl_LW_157 (fun q hq => by cases hq; exact rfl) (by rfl) (by rfl) HL (by first | assumption | omega) ?_
        refine g_iload_n (pc := 131) d_LW_visit_131 rfl 0 rfl ?_
        refine g_iret (pc := 132) d_LW_visit_132 rfl ?_
        refine ⟨rfl, congrArg (wT h lb sc) ?_⟩
        simp only [sS_1, sS_2, sS_3, sC_1, sC_2, sC_S, sS_S, sC_C, hp_7, hp_8, hp_9, hp_3, u1_at, P_fine, Nat.reduceEqDiff, reduceIte, reduceCtorEq] at c_123 ⊢
        first | have c3 := Int32.not_le.mpr c_123 | have c3 := Int32.not_lt.mp c_123
        simp only [P_ins, M_visS, M_visC, M_straight]
        first | simp only [if_pos hc] | simp only [if_neg hc]
        first | simp only [if_neg ht] | simp only [if_pos (show 0 < M_tot B.1 B.2.1 (B.2.2 i) nw from ht)]
        simp only [u1_at, Nat.reduceEqDiff, reduceIte]
        first | rw [if_neg c3] | rw [if_pos c3]
        rfl
    · skip
      have ht : 0 < M_tot B.1 B.2.1 (B.2.2 i) nw := Int32.not_le.mp c_87
      refine g_aload_n (pc := 90) d_LW_visit_90 rfl 2 rfl ?_
      refine g_iconst (pc := 91) (v := 0) d_LW_visit_91 (by decide) ?_
      refine g_ttp (pc := 92) (f := 1) rfl d_LW_visit_92 fl_LW_75 (fun q hq => by cases hq; exact rfl) rfl rfl HL (by first | assumption | omega) ?_
      refine g_aload_n (pc := 95) d_LW_visit_95 rfl 2 rfl ?_
      refine g_iconst (pc := 96) (v := 0) d_LW_visit_96 (by decide) ?_
      refine g_ttp (pc := 97) (f := 2) rfl d_LW_visit_97 fl_LW_78 (fun q hq => by cases hq; exact rfl) rfl rfl HL (by first | assumption | omega) ?_
      refine g_aload_n (pc := 100) d_LW_visit_100 rfl 2 rfl ?_
      refine g_aload_n (pc := 101) d_LW_visit_101 rfl 1 rfl ?_
      refine g_th0 (pc := 102) d_LW_visit_102 fl_LW_30 HL ?_
      refine g_bipush (pc := 105) (v := 7) d_LW_visit_105 (by decide) ?_
      refine g_thl (pc := 107) (j := 7) d_LW_visit_107 HL (by decide) ?_
      refine g_aload_n (pc := 108) d_LW_visit_108 rfl 1 rfl ?_
      refine g_th0 (pc := 109) d_LW_visit_109 fl_LW_30 HL ?_
      refine g_iconst (pc := 112) (v := 3) d_LW_visit_112 (by decide) ?_
      refine g_thl (pc := 113) (j := 3) d_LW_visit_113 HL (by decide) ?_
      refine g_iadd (pc := 114) d_LW_visit_114 ?_
      refine g_ttp (pc := 115) (f := 11) rfl d_LW_visit_115 fl_LW_135 (fun q hq => by cases hq; exact rfl) rfl rfl HL (by first | assumption | omega) ?_
      refine g_aload_n (pc := 118) d_LW_visit_118 rfl 2 rfl ?_
      refine g_ttI (pc := 119) (f := 9) rfl d_LW_visit_119 fl_LW_154 HL (by first | assumption | omega) ?_
      refine g_iconst (pc := 122) (v := 3) d_LW_visit_122 (by decide) ?_
      refine g_icmp_lt (pc := 123) (tgt := 131) d_LW_visit_123 (by decide) (fun c_123 => ?_) (fun c_123 => ?_)
      · skip
        refine g_iload_n (pc := 131) d_LW_visit_131 rfl 0 rfl ?_
        refine g_iret (pc := 132) d_LW_visit_132 rfl ?_
        refine ⟨rfl, congrArg (wT h lb sc) ?_⟩
        simp only [sS_1, sS_2, sS_3, sC_1, sC_2, sC_S, sS_S, sC_C, hp_7, hp_8, hp_9, hp_3, u1_at, P_fine, Nat.reduceEqDiff, reduceIte, reduceCtorEq] at c_123 ⊢
        first | have c3 := Int32.not_le.mpr c_123 | have c3 := Int32.not_lt.mp c_123
        simp only [P_ins, M_visS, M_visC, M_straight]
        first | simp only [if_pos hc] | simp only [if_neg hc]
        first | simp only [if_neg ht] | simp only [if_pos (show 0 < M_tot B.1 B.2.1 (B.2.2 i) nw from ht)]
        simp only [u1_at, Nat.reduceEqDiff, reduceIte]
        first | rw [if_neg c3] | rw [if_pos c3]
        rfl
      · skip
        refine g_aload_n (pc := 126) d_LW_visit_126 rfl 2 rfl ?_
        refine g_iconst (pc := 127) (v := 0) d_LW_visit_127 (by decide) ?_
        refine g_ttp (pc := 128) (f := 12) rfl d_LW_visit_128 fl_LW_157 (fun q hq => by cases hq; exact rfl) (by rfl) (by rfl) HL (by first | assumption | omega) ?_
        refine g_iload_n (pc := 131) d_LW_visit_131 rfl 0 rfl ?_
        refine g_iret (pc := 132) d_LW_visit_132 rfl ?_
        refine ⟨rfl, congrArg (wT h lb sc) ?_⟩
        simp only [sS_1, sS_2, sS_3, sC_1, sC_2, sC_S, sS_S, sC_C, hp_7, hp_8, hp_9, hp_3, u1_at, P_fine, Nat.reduceEqDiff, reduceIte, reduceCtorEq] at c_123 ⊢
        first | have c3 := Int32.not_le.mpr c_123 | have c3 := Int32.not_lt.mp c_123
        simp only [P_ins, M_visS, M_visC, M_straight]
        first | simp only [if_pos hc] | simp only [if_neg hc]
        first | simp only [if_neg ht] | simp only [if_pos (show 0 < M_tot B.1 B.2.1 (B.2.2 i) nw from ht)]
        simp only [u1_at, Nat.reduceEqDiff, reduceIte]
        first | rw [if_neg c3] | rw [if_pos c3]
        rfl
