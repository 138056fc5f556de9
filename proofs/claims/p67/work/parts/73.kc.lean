/-! THE LAW: error, excess, total, fine, fails, visit, gain -/
set_option maxRecDepth 20000 in
theorem cl_LW_error {E : En} {h : Hp} {lb nw sc i : Nat} {B : Bu} {g : Int32} (HL : LbOk h lb nw sc) (hi : i < sc) : CR E m_LW_error [.ref (tw h lb i), .int g] (wT h lb sc B) (some (.int (M_err (B.2.2 i) g))) ((wT h lb sc B)) := by
  refine ct_of rfl (by decide +kernel) (Nat.le_of_ble_eq_true rfl) ?_
  show G E m_LW_error 0 [(0, .ref (tw h lb i)), (1, .int g)] [] (wT h lb sc B) 0 0 _ noX
  refine g_aload_n (pc := 0) d_LW_error_0 rfl 0 rfl ?_
  refine g_ttI (pc := 1) (f := 1) rfl d_LW_error_1 fl_LW_75 HL (by first | assumption | omega) ?_
  refine g_iload_n (pc := 4) d_LW_error_4 rfl 1 rfl ?_
  refine g_aload_n (pc := 5) d_LW_error_5 rfl 0 rfl ?_
  refine g_ttI (pc := 6) (f := 2) rfl d_LW_error_6 fl_LW_78 HL (by first | assumption | omega) ?_
  refine g_imul (pc := 9) d_LW_error_9 ?_
  refine g_sipush (pc := 10) (v := 1000) d_LW_error_10 (by decide) ?_
  refine g_idiv (pc := 13) d_LW_error_13 (by decide) ?_
  refine g_iadd (pc := 14) d_LW_error_14 ?_
  refine g_iret (pc := 15) d_LW_error_15 rfl ?_
  exact ⟨rfl, rfl⟩
set_option maxRecDepth 20000 in
theorem cl_LW_excess {E : En} {h : Hp} {lb nw sc i : Nat} {B : Bu} {g : Int32} (HL : LbOk h lb nw sc) (hi : i < sc) : CR E m_LW_excess [.ref lb, .ref (tw h lb i), .int g] (wT h lb sc B) (some (.int (M_exc B.1 (B.2.2 i) g))) ((wT h lb sc B)) := by
  refine ct_of rfl (by decide +kernel) (Nat.le_of_ble_eq_true rfl) ?_
  show G E m_LW_excess 0 [(0, .ref lb), (1, .ref (tw h lb i)), (2, .int g)] [] (wT h lb sc B) 0 0 _ noX
  refine g_iconst (pc := 0) (v := 0) d_LW_excess_0 (by decide) ?_
  refine g_aload_n (pc := 1) d_LW_excess_1 rfl 1 rfl ?_
  refine g_iload_n (pc := 2) d_LW_excess_2 rfl 2 rfl ?_
  refine g_cS1 (pc := 3) (As := [.ref _, .int _]) d_LW_excess_3 rfl ms_LW_error st_LW_excess_114 rfl rfl (Nat.le_of_ble_eq_true rfl) (cl_LW_error HL hi) ?_
  refine g_abs (pc := 6) d_LW_excess_6 mm_LW_excess_118 (Nat.le_of_ble_eq_true rfl) ?_
  refine g_aload_n (pc := 9) d_LW_excess_9 rfl 0 rfl ?_
  refine g_th0 (pc := 10) d_LW_excess_10 fl_LW_30 HL ?_
  refine g_iconst (pc := 13) (v := 0) d_LW_excess_13 (by decide) ?_
  refine g_thl (pc := 14) (j := 0) d_LW_excess_14 HL (by decide) ?_
  refine g_isub (pc := 15) d_LW_excess_15 ?_
  refine g_iload_n (pc := 16) d_LW_excess_16 rfl 2 rfl ?_
  refine g_aload_n (pc := 17) d_LW_excess_17 rfl 0 rfl ?_
  refine g_th0 (pc := 18) d_LW_excess_18 fl_LW_30 HL ?_
  refine g_iconst (pc := 21) (v := 1) d_LW_excess_21 (by decide) ?_
  refine g_thl (pc := 22) (j := 1) d_LW_excess_22 HL (by decide) ?_
  refine g_imul (pc := 23) d_LW_excess_23 ?_
  refine g_sipush (pc := 24) (v := 1000) d_LW_excess_24 (by decide) ?_
  refine g_idiv (pc := 27) d_LW_excess_27 (by decide) ?_
  refine g_isub (pc := 28) d_LW_excess_28 ?_
  refine g_top (y := M_abs (M_err (B.2.2 i) g) - M_bound B.1 g) (Int32.sub_sub _ _ _) ?_
  refine g_max (pc := 29) d_LW_excess_29 mm_LW_excess_123 (Nat.le_of_ble_eq_true rfl) ?_
  refine g_iret (pc := 32) d_LW_excess_32 rfl ?_
  exact ⟨rfl, rfl⟩
set_option maxRecDepth 20000 in
theorem lq_LW_total {E : En} {h : Hp} {lb nw sc i : Nat} {B : Bu} (HL : LbOk h lb nw sc) (hi : i < sc) : ∀ (d q : Nat), q ≤ nw → nw - q < d → G E m_LW_total 14 [(5, .int (nI q)), (4, .int (nI nw)), (3, .ref (rA h lb 1)), (2, .int (M_tot B.1 B.2.1 (B.2.2 i) q)), (0, .ref lb), (1, .ref (tw h lb i))] [] (wT h lb sc B) 0 0 (fun v h9 => v = some (.int (M_tot B.1 B.2.1 (B.2.2 i) nw)) ∧ h9 = (wT h lb sc B)) noX := by
  intro d
  induction d with
  | zero => intro q h1 h2; omega
  | succ d ih =>
    intro q h1 h2
    have n6 := HL.n6
    refine g_iload (pc := 14) d_LW_total_14 0 rfl ?_
    refine g_iload (pc := 16) d_LW_total_16 1 rfl ?_
    refine g_icmp_ge (pc := 18) (tgt := 43) d_LW_total_18 (by decide) (fun c_18 => ?_) (fun c_18 => ?_)
    · skip
      have eq9 : q = nw := by have := (nI_leI9 (a := nw) (b := q) (by omega) (by omega)).mp c_18; omega
      subst eq9
      refine g_iload_n (pc := 43) d_LW_total_43 rfl 3 rfl ?_
      refine g_iret (pc := 44) d_LW_total_44 rfl ?_
      exact ⟨rfl, rfl⟩
    · skip
      have hq : q < nw := Nat.lt_of_not_le (fun z => c_18 ((nI_leI9 (by omega) (by omega)).mpr z))
      refine g_aload_n (pc := 21) d_LW_total_21 rfl 2 rfl ?_
      refine g_iload (pc := 22) d_LW_total_22 0 rfl ?_
      refine g_twl (pc := 24) d_LW_total_24 HL (by first | assumption | omega) ?_
      refine g_istore (pc := 25) (lv' := [(6, .int (B.2.1 q)), (5, .int (nI q)), (4, .int (nI nw)), (3, .ref (rA h lb 1)), (2, .int (M_tot B.1 B.2.1 (B.2.2 i) q)), (0, .ref lb), (1, .ref (tw h lb i))]) d_LW_total_25 (by decide) rfl ?_
      refine g_iload_n (pc := 27) d_LW_total_27 rfl 4 rfl ?_
      refine g_aload_n (pc := 28) d_LW_total_28 rfl 5 rfl ?_
      refine g_aload_n (pc := 29) d_LW_total_29 rfl 6 rfl ?_
      refine g_iload (pc := 30) d_LW_total_30 0 rfl ?_
      refine g_cS1 (pc := 32) (As := [.ref _, .ref _, .int _]) d_LW_total_32 rfl ms_LW_excess st_LW_total_127 rfl rfl (Nat.le_of_ble_eq_true rfl) (cl_LW_excess HL hi) ?_
      refine g_iadd (pc := 35) d_LW_total_35 ?_
      refine g_top (y := M_tot B.1 B.2.1 (B.2.2 i) (q + 1)) rfl ?_
      refine g_istore_n (pc := 36) (lv' := [(2, .int (M_tot B.1 B.2.1 (B.2.2 i) (q + 1))), (6, .int (B.2.1 q)), (5, .int (nI q)), (4, .int (nI nw)), (3, .ref (rA h lb 1)), (0, .ref lb), (1, .ref (tw h lb i))]) d_LW_total_36 rfl (by decide) rfl ?_
      obtain ⟨x_1, hx_1⟩ : ∃ y : Int32, y = (nI q) + 1 := ⟨_, rfl⟩
      refine g_iinc (pc := 37) (w := 2) (v := x_1) (lv' := [(5, .int x_1), (2, .int (M_tot B.1 B.2.1 (B.2.2 i) (q + 1))), (6, .int (B.2.1 q)), (4, .int (nI nw)), (3, .ref (rA h lb 1)), (0, .ref lb), (1, .ref (tw h lb i))]) d_LW_total_37 rfl (by rw [hx_1]; rfl) (by decide) rfl ?_
      refine g_goto (pc := 40) (tgt := 14) d_LW_total_40 (by decide) ?_
      obtain rfl : x_1 = nI (q + 1) := by rw [hx_1, nI_1]
      refine g_perm [0, 3, 4, 1, 5, 6] rfl ?_
      exact ih (q + 1) (by omega) (by omega)
set_option maxRecDepth 20000 in
theorem cl_LW_total {E : En} {h : Hp} {lb nw sc i : Nat} {B : Bu} (HL : LbOk h lb nw sc) (hi : i < sc) : CR E m_LW_total [.ref lb, .ref (tw h lb i)] (wT h lb sc B) (some (.int (M_tot B.1 B.2.1 (B.2.2 i) nw))) ((wT h lb sc B)) := by
  refine ct_of rfl (by decide +kernel) (Nat.le_of_ble_eq_true rfl) ?_
  show G E m_LW_total 0 [(0, .ref lb), (1, .ref (tw h lb i))] [] (wT h lb sc B) 0 0 _ noX
  refine g_iconst (pc := 0) (v := 0) d_LW_total_0 (by decide) ?_
  refine g_top (y := M_tot B.1 B.2.1 (B.2.2 i) 0) rfl ?_
  refine g_istore_n (pc := 1) (lv' := [(2, .int (M_tot B.1 B.2.1 (B.2.2 i) 0)), (0, .ref lb), (1, .ref (tw h lb i))]) d_LW_total_1 rfl (by decide) rfl ?_
  refine g_aload_n (pc := 2) d_LW_total_2 rfl 1 rfl ?_
  refine g_th1 (pc := 3) d_LW_total_3 fl_LW_40 HL ?_
  refine g_astore_n (pc := 6) (lv' := [(3, .ref (rA h lb 1)), (2, .int (M_tot B.1 B.2.1 (B.2.2 i) 0)), (0, .ref lb), (1, .ref (tw h lb i))]) d_LW_total_6 rfl (by decide) rfl ?_
  refine g_aload_n (pc := 7) d_LW_total_7 rfl 0 rfl ?_
  refine g_twn (pc := 8) d_LW_total_8 HL ?_
  refine g_istore (pc := 9) (lv' := [(4, .int (nI nw)), (3, .ref (rA h lb 1)), (2, .int (M_tot B.1 B.2.1 (B.2.2 i) 0)), (0, .ref lb), (1, .ref (tw h lb i))]) d_LW_total_9 (by decide) rfl ?_
  refine g_iconst (pc := 11) (v := 0) d_LW_total_11 (by decide) ?_
  refine g_istore (pc := 12) (lv' := [(5, .int (nI 0)), (4, .int (nI nw)), (3, .ref (rA h lb 1)), (2, .int (M_tot B.1 B.2.1 (B.2.2 i) 0)), (0, .ref lb), (1, .ref (tw h lb i))]) d_LW_total_12 (by decide) rfl ?_
  refine g_perm [0, 1, 2, 3, 4, 5] rfl ?_
  exact lq_LW_total HL hi (nw + 1) 0 (by omega) (by omega)
set_option maxRecDepth 20000 in
theorem cl_LW_fine {E : En} {h : Hp} {lb nw sc i : Nat} {B : Bu} (HL : LbOk h lb nw sc) (hi : i < sc) : CR E m_LW_fine [.ref lb, .ref (tw h lb i)] (wT h lb sc B) (some (.int (P_fine B i nw))) ((wT h lb sc B)) := by
  refine ct_of rfl (by decide +kernel) (Nat.le_of_ble_eq_true rfl) ?_
  show G E m_LW_fine 0 [(0, .ref lb), (1, .ref (tw h lb i))] [] (wT h lb sc B) 0 0 _ noX
  refine g_aload_n (pc := 0) d_LW_fine_0 rfl 0 rfl ?_
  refine g_th0 (pc := 1) d_LW_fine_1 fl_LW_30 HL ?_
  refine g_iconst (pc := 4) (v := 2) d_LW_fine_4 (by decide) ?_
  refine g_thl (pc := 5) (j := 2) d_LW_fine_5 HL (by decide) ?_
  refine g_aload_n (pc := 6) d_LW_fine_6 rfl 0 rfl ?_
  refine g_aload_n (pc := 7) d_LW_fine_7 rfl 1 rfl ?_
  refine g_cS1 (pc := 8) (As := [.ref _, .ref _]) d_LW_fine_8 rfl ms_LW_total st_LW_fine_131 rfl rfl (Nat.le_of_ble_eq_true rfl) (cl_LW_total HL hi) ?_
  refine g_bipush (pc := 11) (v := 27) d_LW_fine_11 (by decide) ?_
  refine g_iadd (pc := 13) d_LW_fine_13 ?_
  refine g_bipush (pc := 14) (v := 28) d_LW_fine_14 (by decide) ?_
  refine g_idiv (pc := 16) d_LW_fine_16 (by decide) ?_
  refine g_imul (pc := 17) d_LW_fine_17 ?_
  refine g_aload_n (pc := 18) d_LW_fine_18 rfl 1 rfl ?_
  refine g_ttI (pc := 19) (f := 11) rfl d_LW_fine_19 fl_LW_135 HL (by first | assumption | omega) ?_
  refine g_aload_n (pc := 22) d_LW_fine_22 rfl 0 rfl ?_
  refine g_th0 (pc := 23) d_LW_fine_23 fl_LW_30 HL ?_
  refine g_bipush (pc := 26) (v := 7) d_LW_fine_26 (by decide) ?_
  refine g_thl (pc := 28) (j := 7) d_LW_fine_28 HL (by decide) ?_
  refine g_icmp_ge (pc := 29) (tgt := 43) d_LW_fine_29 (by decide) (fun c_29 => ?_) (fun c_29 => ?_)
  · skip
    have hz : M_stamped (B.2.2 i) (B.1 9) = true := decide_eq_true c_29
    refine g_iconst (pc := 43) (v := 0) d_LW_fine_43 (by decide) ?_
    refine g_iadd (pc := 44) d_LW_fine_44 ?_
    refine g_iret (pc := 45) d_LW_fine_45 rfl ?_
    refine ⟨?_, rfl⟩
    unfold P_fine M_fine
    rw [hz]
    rfl
  · skip
    have hz : M_stamped (B.2.2 i) (B.1 9) = false := decide_eq_false c_29
    refine g_iconst (pc := 32) (v := 5) d_LW_fine_32 (by decide) ?_
    refine g_aload_n (pc := 33) d_LW_fine_33 rfl 0 rfl ?_
    refine g_th0 (pc := 34) d_LW_fine_34 fl_LW_30 HL ?_
    refine g_iconst (pc := 37) (v := 2) d_LW_fine_37 (by decide) ?_
    refine g_thl (pc := 38) (j := 2) d_LW_fine_38 HL (by decide) ?_
    refine g_imul (pc := 39) d_LW_fine_39 ?_
    refine g_goto (pc := 40) (tgt := 44) d_LW_fine_40 (by decide) ?_
    refine g_iadd (pc := 44) d_LW_fine_44 ?_
    refine g_iret (pc := 45) d_LW_fine_45 rfl ?_
    refine ⟨?_, rfl⟩
    unfold P_fine M_fine
    rw [hz]
    rfl
def P_fails (B : Bu) (i nw : Nat) : Bool := decide (0 < M_tot B.1 B.2.1 (B.2.2 i) nw) || !M_stamped (B.2.2 i) (B.1 9)
set_option maxRecDepth 20000 in
theorem cl_LW_fails {E : En} {h : Hp} {lb nw sc i : Nat} {B : Bu} (HL : LbOk h lb nw sc) (hi : i < sc) : CR E m_LW_fails [.ref lb, .ref (tw h lb i)] (wT h lb sc B) (some (.int (bI (P_fails B i nw)))) ((wT h lb sc B)) := by
  refine ct_of rfl (by decide +kernel) (Nat.le_of_ble_eq_true rfl) ?_
  show G E m_LW_fails 0 [(0, .ref lb), (1, .ref (tw h lb i))] [] (wT h lb sc B) 0 0 _ noX
  refine g_aload_n (pc := 0) d_LW_fails_0 rfl 0 rfl ?_
  refine g_aload_n (pc := 1) d_LW_fails_1 rfl 1 rfl ?_
  refine g_cS1 (pc := 2) (As := [.ref _, .ref _]) d_LW_fails_2 rfl ms_LW_total st_LW_fails_131 rfl rfl (Nat.le_of_ble_eq_true rfl) (cl_LW_total HL hi) ?_
  refine g_if_gt (pc := 5) (tgt := 22) d_LW_fails_5 (by decide) (fun c_5 => ?_) (fun c_5 => ?_)
  · skip
    have hf : P_fails B i nw = true := by unfold P_fails; rw [decide_eq_true c_5]; rfl
    refine g_iconst (pc := 22) (v := 1) d_LW_fails_22 (by decide) ?_
    refine g_goto (pc := 23) (tgt := 27) d_LW_fails_23 (by decide) ?_
    refine g_zret (pc := 27) d_LW_fails_27 rfl rfl ?_
    exact ⟨by rw [hf]; rfl, rfl⟩
  · skip
    refine g_aload_n (pc := 8) d_LW_fails_8 rfl 1 rfl ?_
    refine g_ttI (pc := 9) (f := 11) rfl d_LW_fails_9 fl_LW_135 HL (by first | assumption | omega) ?_
    refine g_aload_n (pc := 12) d_LW_fails_12 rfl 0 rfl ?_
    refine g_th0 (pc := 13) d_LW_fails_13 fl_LW_30 HL ?_
    refine g_bipush (pc := 16) (v := 7) d_LW_fails_16 (by decide) ?_
    refine g_thl (pc := 18) (j := 7) d_LW_fails_18 HL (by decide) ?_
    refine g_icmp_ge (pc := 19) (tgt := 26) d_LW_fails_19 (by decide) (fun c_19 => ?_) (fun c_19 => ?_)
    · skip
      have hf : P_fails B i nw = false := by
        unfold P_fails
        rw [decide_eq_false c_5, show M_stamped (B.2.2 i) (B.1 9) = true from decide_eq_true c_19]
        rfl
      refine g_iconst (pc := 26) (v := 0) d_LW_fails_26 (by decide) ?_
      refine g_zret (pc := 27) d_LW_fails_27 rfl rfl ?_
      exact ⟨by rw [hf]; rfl, rfl⟩
    · skip
      have hf : P_fails B i nw = true := by
        unfold P_fails
        rw [show M_stamped (B.2.2 i) (B.1 9) = false from decide_eq_false c_19]
        exact Bool.or_true _
      refine g_iconst (pc := 22) (v := 1) d_LW_fails_22 (by decide) ?_
      refine g_goto (pc := 23) (tgt := 27) d_LW_fails_23 (by decide) ?_
      refine g_zret (pc := 27) d_LW_fails_27 rfl rfl ?_
      exact ⟨by rw [hf]; rfl, rfl⟩
set_option maxRecDepth 20000 in
theorem cl_LW_gain {E : En} {h : Hp} {lb nw sc i : Nat} {B : Bu} (HL : LbOk h lb nw sc) (hi : i < sc) (hlat : B.2.2 i 10 = -1 ∨ 0 ≤ B.2.2 i 10) : CR E m_LW_gain [.ref lb, .ref (tw h lb i)] (wT h lb sc B) (some (.int (M_gain B.1 (B.2.2 i) (M_false (B.2.2 i) (B.1 9))))) ((wT h lb sc B)) := by
  refine ct_of rfl (by decide +kernel) (Nat.le_of_ble_eq_true rfl) ?_
  show G E m_LW_gain 0 [(0, .ref lb), (1, .ref (tw h lb i))] [] (wT h lb sc B) 0 0 _ noX
  refine g_aload_n (pc := 0) d_LW_gain_0 rfl 1 rfl ?_
  refine g_ttI (pc := 1) (f := 10) rfl d_LW_gain_1 fl_LW_141 HL (by first | assumption | omega) ?_
  refine g_if_lt (pc := 4) (tgt := 26) d_LW_gain_4 (by decide) (fun c_4 => ?_) (fun c_4 => ?_)
  · skip
    have hu : M_uses (B.2.2 i) (B.1 9) = true := by
      unfold M_uses
      rcases hlat with z | z
      · rw [decide_eq_true z]; rfl
      · exact absurd c_4 (Int32.not_lt.mpr z)
    refine g_iconst (pc := 26) (v := 1) d_LW_gain_26 (by decide) ?_
    refine g_goto (pc := 27) (tgt := 31) d_LW_gain_27 (by decide) ?_
    refine g_istore_n (pc := 31) (lv' := [(2, .int 1), (0, .ref lb), (1, .ref (tw h lb i))]) d_LW_gain_31 rfl (by decide) rfl ?_
    refine g_aload_n (pc := 32) d_LW_gain_32 rfl 2 rfl ?_
    refine g_ttI (pc := 33) (f := 5) rfl d_LW_gain_33 fl_LW_87 HL (by first | assumption | omega) ?_
    refine g_aload_n (pc := 36) d_LW_gain_36 rfl 2 rfl ?_
    refine g_aload_n (pc := 37) d_LW_gain_37 rfl 2 rfl ?_
    refine g_ttI (pc := 38) (f := 4) rfl d_LW_gain_38 fl_LW_84 HL (by first | assumption | omega) ?_
    refine g_cS1 (pc := 41) (As := [.ref _, .int _]) d_LW_gain_41 rfl ms_LW_error st_LW_gain_114 rfl rfl (Nat.le_of_ble_eq_true rfl) (cl_LW_error HL hi) ?_
    refine g_iload_n (pc := 44) d_LW_gain_44 rfl 0 rfl ?_
    refine g_if_eq (pc := 45) (tgt := 55) d_LW_gain_45 (by decide) (fun c_45 => ?_) (fun c_45 => ?_)
    · exact absurd c_45 (by decide)
    · skip
      refine g_aload_n (pc := 48) d_LW_gain_48 rfl 2 rfl ?_
      refine g_ttI (pc := 49) (f := 6) rfl d_LW_gain_49 fl_LW_90 HL (by first | assumption | omega) ?_
      refine g_goto (pc := 52) (tgt := 56) d_LW_gain_52 (by decide) ?_
      refine g_iadd (pc := 56) d_LW_gain_56 ?_
      refine g_imul (pc := 57) d_LW_gain_57 ?_
      refine g_aload_n (pc := 58) d_LW_gain_58 rfl 1 rfl ?_
      refine g_th0 (pc := 59) d_LW_gain_59 fl_LW_30 HL ?_
      refine g_iconst (pc := 62) (v := 4) d_LW_gain_62 (by decide) ?_
      refine g_thl (pc := 63) (j := 4) d_LW_gain_63 HL (by decide) ?_
      refine g_imul (pc := 64) d_LW_gain_64 ?_
      refine g_sipush (pc := 65) (v := 1000) d_LW_gain_65 (by decide) ?_
      refine g_idiv (pc := 68) d_LW_gain_68 (by decide) ?_
      refine g_iret (pc := 69) d_LW_gain_69 rfl ?_
      refine ⟨?_, rfl⟩
      unfold M_gain M_false
      rw [hu]
      rfl
  · skip
    have hn1 : ¬ B.2.2 i 10 = -1 := fun z => c_4 (by rw [z]; decide)
    refine g_aload_n (pc := 7) d_LW_gain_7 rfl 0 rfl ?_
    refine g_th0 (pc := 8) d_LW_gain_8 fl_LW_30 HL ?_
    refine g_bipush (pc := 11) (v := 7) d_LW_gain_11 (by decide) ?_
    refine g_thl (pc := 13) (j := 7) d_LW_gain_13 HL (by decide) ?_
    refine g_aload_n (pc := 14) d_LW_gain_14 rfl 1 rfl ?_
    refine g_ttI (pc := 15) (f := 10) rfl d_LW_gain_15 fl_LW_141 HL (by first | assumption | omega) ?_
    refine g_isub (pc := 18) d_LW_gain_18 ?_
    refine g_aload_n (pc := 19) d_LW_gain_19 rfl 1 rfl ?_
    refine g_ttI (pc := 20) (f := 7) rfl d_LW_gain_20 fl_LW_93 HL (by first | assumption | omega) ?_
    refine g_icmp_le (pc := 23) (tgt := 30) d_LW_gain_23 (by decide) (fun c_23 => ?_) (fun c_23 => ?_)
    · skip
      have hu : M_uses (B.2.2 i) (B.1 9) = false := by
        unfold M_uses
        rw [decide_eq_false hn1, decide_eq_false (show ¬ B.2.2 i 7 < B.1 9 - B.2.2 i 10 from Int32.not_lt.mpr c_23)]; rfl
      refine g_iconst (pc := 30) (v := 0) d_LW_gain_30 (by decide) ?_
      refine g_istore_n (pc := 31) (lv' := [(2, .int 0), (0, .ref lb), (1, .ref (tw h lb i))]) d_LW_gain_31 rfl (by decide) rfl ?_
      refine g_aload_n (pc := 32) d_LW_gain_32 rfl 2 rfl ?_
      refine g_ttI (pc := 33) (f := 5) rfl d_LW_gain_33 fl_LW_87 HL (by first | assumption | omega) ?_
      refine g_aload_n (pc := 36) d_LW_gain_36 rfl 2 rfl ?_
      refine g_aload_n (pc := 37) d_LW_gain_37 rfl 2 rfl ?_
      refine g_ttI (pc := 38) (f := 4) rfl d_LW_gain_38 fl_LW_84 HL (by first | assumption | omega) ?_
      refine g_cS1 (pc := 41) (As := [.ref _, .int _]) d_LW_gain_41 rfl ms_LW_error st_LW_gain_114 rfl rfl (Nat.le_of_ble_eq_true rfl) (cl_LW_error HL hi) ?_
      refine g_iload_n (pc := 44) d_LW_gain_44 rfl 0 rfl ?_
      refine g_if_eq (pc := 45) (tgt := 55) d_LW_gain_45 (by decide) (fun c_45 => ?_) (fun c_45 => ?_)
      · skip
        refine g_iconst (pc := 55) (v := 0) d_LW_gain_55 (by decide) ?_
        refine g_iadd (pc := 56) d_LW_gain_56 ?_
        refine g_imul (pc := 57) d_LW_gain_57 ?_
        refine g_aload_n (pc := 58) d_LW_gain_58 rfl 1 rfl ?_
        refine g_th0 (pc := 59) d_LW_gain_59 fl_LW_30 HL ?_
        refine g_iconst (pc := 62) (v := 4) d_LW_gain_62 (by decide) ?_
        refine g_thl (pc := 63) (j := 4) d_LW_gain_63 HL (by decide) ?_
        refine g_imul (pc := 64) d_LW_gain_64 ?_
        refine g_sipush (pc := 65) (v := 1000) d_LW_gain_65 (by decide) ?_
        refine g_idiv (pc := 68) d_LW_gain_68 (by decide) ?_
        refine g_iret (pc := 69) d_LW_gain_69 rfl ?_
        refine ⟨?_, rfl⟩
        unfold M_gain M_false
        rw [hu]
        rfl
      · exact (c_45 (by decide)).elim
    · skip
      have hu : M_uses (B.2.2 i) (B.1 9) = true := by
        unfold M_uses
        rw [decide_eq_true (show B.2.2 i 7 < B.1 9 - B.2.2 i 10 from Int32.not_le.mp c_23)]; exact Bool.or_true _
      refine g_iconst (pc := 26) (v := 1) d_LW_gain_26 (by decide) ?_
      refine g_goto (pc := 27) (tgt := 31) d_LW_gain_27 (by decide) ?_
      refine g_istore_n (pc := 31) (lv' := [(2, .int 1), (0, .ref lb), (1, .ref (tw h lb i))]) d_LW_gain_31 rfl (by decide) rfl ?_
      refine g_aload_n (pc := 32) d_LW_gain_32 rfl 2 rfl ?_
      refine g_ttI (pc := 33) (f := 5) rfl d_LW_gain_33 fl_LW_87 HL (by first | assumption | omega) ?_
      refine g_aload_n (pc := 36) d_LW_gain_36 rfl 2 rfl ?_
      refine g_aload_n (pc := 37) d_LW_gain_37 rfl 2 rfl ?_
      refine g_ttI (pc := 38) (f := 4) rfl d_LW_gain_38 fl_LW_84 HL (by first | assumption | omega) ?_
      refine g_cS1 (pc := 41) (As := [.ref _, .int _]) d_LW_gain_41 rfl ms_LW_error st_LW_gain_114 rfl rfl (Nat.le_of_ble_eq_true rfl) (cl_LW_error HL hi) ?_
      refine g_iload_n (pc := 44) d_LW_gain_44 rfl 0 rfl ?_
      refine g_if_eq (pc := 45) (tgt := 55) d_LW_gain_45 (by decide) (fun c_45 => ?_) (fun c_45 => ?_)
      · exact absurd c_45 (by decide)
      · skip
        refine g_aload_n (pc := 48) d_LW_gain_48 rfl 2 rfl ?_
        refine g_ttI (pc := 49) (f := 6) rfl d_LW_gain_49 fl_LW_90 HL (by first | assumption | omega) ?_
        refine g_goto (pc := 52) (tgt := 56) d_LW_gain_52 (by decide) ?_
        refine g_iadd (pc := 56) d_LW_gain_56 ?_
        refine g_imul (pc := 57) d_LW_gain_57 ?_
        refine g_aload_n (pc := 58) d_LW_gain_58 rfl 1 rfl ?_
        refine g_th0 (pc := 59) d_LW_gain_59 fl_LW_30 HL ?_
        refine g_iconst (pc := 62) (v := 4) d_LW_gain_62 (by decide) ?_
        refine g_thl (pc := 63) (j := 4) d_LW_gain_63 HL (by decide) ?_
        refine g_imul (pc := 64) d_LW_gain_64 ?_
        refine g_sipush (pc := 65) (v := 1000) d_LW_gain_65 (by decide) ?_
        refine g_idiv (pc := 68) d_LW_gain_68 (by decide) ?_
        refine g_iret (pc := 69) d_LW_gain_69 rfl ?_
        refine ⟨?_, rfl⟩
        unfold M_gain M_false
        rw [hu]
        rfl
