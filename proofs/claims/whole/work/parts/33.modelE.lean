/-! THE MODEL: the other questions, the output -/
theorem KC_idem {nw sc : Nat} {B : Bu} {g : Nat → Int32} (n6 : nw ≤ 6) (s8 : sc ≤ 8) : KC (enc nw sc B (KC (enc nw sc B g) 0 12)) 0 12 = KC (enc nw sc B g) 0 12 := by
  rw [enc_KC (t := 12) n6 s8 (by omega)]
  funext q
  by_cases h : 140 * 12 ≤ q ∧ q < 140 * 12 + 140
  · have e1 : KC (KC (enc nw sc B g) 0 12) 0 12 q = KC (enc nw sc B g) 0 12 (q - 140 * 12 + 140 * 0) := if_pos h
    have e2 : KC (enc nw sc B g) 0 12 (q - 140 * 12 + 140 * 0) = enc nw sc B g (q - 140 * 12 + 140 * 0) := if_neg (by omega)
    have e3 : KC (enc nw sc B g) 0 12 q = enc nw sc B g (q - 140 * 12 + 140 * 0) := if_pos h
    rw [e1, e2, e3]
  · exact if_neg h
theorem enc_12 {nw sc : Nat} {B : Bu} {g : Nat → Int32} : enc nw sc B g 12 = g 12 := by
  unfold enc
  rw [if_neg (by omega), if_neg (by omega), if_neg (by omega)]
theorem dgL_of {w k : Nat} (hk : k ≤ 9) (h1 : k = 0 ∨ 10 ^ k ≤ w) (h2 : w / 10 ^ k < 10) (hw : w < 2147483648) : dgL w = k + 1 := by
  obtain rfl | rfl | rfl | rfl | rfl | rfl | rfl | rfl | rfl | rfl : k = 0 ∨ k = 1 ∨ k = 2 ∨ k = 3 ∨ k = 4 ∨ k = 5 ∨ k = 6 ∨ k = 7 ∨ k = 8 ∨ k = 9 := by omega
  all_goals
    simp only [Nat.reducePow] at h1 h2
    unfold dgL
    repeat' split
    all_goals omega
theorem p10 {k : Nat} (hk : k ≤ 9) : 1 ≤ 10 ^ k ∧ 10 ^ k ≤ 1000000000 := ⟨Nat.pos_of_ne_zero (by simp), Nat.pow_le_pow_right (n := 10) (by omega) hk⟩
theorem lp_MO_bestThumb {E : En} {h : Hp} {m st nw sc : Nat} {c g : Nat → Int32} {B : Bu} {R : List (Nat × (Nat → Int32))} {ni U : Nat} {i : Nat} {days : Nat} (hM : MoOk h m st) (nd : (m :: st :: R.map Prod.fst).Nodup) (hG : Gd B nw sc ni U) (hU : U + days ≤ 2000000000) (hi : i < sc) : ∀ (d k : Nat) (g9 : Nat → Int32), KC (enc nw sc B g9) 0 12 = (KC (enc nw sc B g) 0 12) → (k = 0 ∨ g9 = (KC (enc nw sc B g) 0 12)) → k ≤ 21 → 21 - k < d → G E m_MO_bestThumb 43 [(5, .int (nI (5 * k))), (4, .int (Q_best B nw sc ni i days k).2), (3, .int (Q_best B nw sc ni i days k).1), (0, .ref m), (1, .int (nI i)), (2, .int (nI days))] [] (wL h ((m, c) :: (st, enc nw sc B g9) :: R)) 0 0 (fun v1 h1 => v1 = some (.int (Q_best B nw sc ni i days 21).1) ∧ h1 = wL h ((m, c) :: (st, enc nw sc B (KC (enc nw sc B g) 0 12)) :: R)) noX := by
  obtain ⟨k_m, r_m_0, k_st, l_st⟩ := id hM
  obtain ⟨hw, n6, hs, s8, h0, hni, n3, ⟨sd, hsd, hsx⟩, hop⟩ := id hG.1
  intro d
  induction d with
  | zero => intros; omega
  | succ d ih =>
    intro k g9 hg hk9 hk hd
    refine g_iload (pc := 43) d_MO_bestThumb_43 0 rfl ?_
    refine g_bipush (pc := 45) (v := 100) d_MO_bestThumb_45 (by decide) ?_
    refine g_icmp_gt (pc := 47) (tgt := 97) d_MO_bestThumb_47 (by decide) (fun c_47 => ?_) (fun c_47 => ?_)
    · skip
      have e9 : k = 21 := by have := (nI_ltI (a := 100) (b := 5 * k) (by omega) (by omega)).mp c_47; omega
      have e8 : g9 = (KC (enc nw sc B g) 0 12) := hk9.resolve_left (by omega)
      refine g_iload_n (pc := 97) d_MO_bestThumb_97 rfl 2 rfl ?_
      refine g_iret (pc := 98) d_MO_bestThumb_98 rfl ?_
      rw [e9, e8]
      exact ⟨rfl, rfl⟩
    · skip
      have e9 : k < 21 := by have := mt (nI_ltI (a := 100) (b := 5 * k) (by omega) (by omega)).mpr c_47; omega
      refine g_aload_n (pc := 50) d_MO_bestThumb_50 rfl 3 rfl ?_
      refine g_iconst (pc := 51) (v := 0) d_MO_bestThumb_51 (by decide) ?_
      refine g_bipush (pc := 52) (v := 12) d_MO_bestThumb_52 (by decide) ?_
      refine g_cV0 (pc := 54) (ci := 7) (As := [.int _, .int _]) d_MO_bestThumb_54 rfl mv_MO_copyBlock st_MO_bestThumb_61 rfl rfl (by decide) rfl rfl (Nat.le_of_ble_eq_true rfl) k_m (cm_copy12 hM nd n6 s8) ?_
      rw [hg]
      refine g_aload_n (pc := 57) d_MO_bestThumb_57 rfl 3 rfl ?_
      refine g_iload_n (pc := 58) d_MO_bestThumb_58 rfl 4 rfl ?_
      refine g_bipush (pc := 59) (v := 6) d_MO_bestThumb_59 (by decide) ?_
      refine g_iload (pc := 61) d_MO_bestThumb_61 0 rfl ?_
      refine g_cV0 (pc := 63) (ci := 7) (As := [.int _, .int _, .int _]) d_MO_bestThumb_63 rfl mv_MO_put st_MO_bestThumb_65 rfl rfl (by decide) rfl rfl (Nat.le_of_ble_eq_true rfl) k_m (cm_MO_put (k := 6) hM nd n6 s8 hi (by decide)) ?_
      refine g_h (h' := wL h ((m, c) :: (st, enc nw sc (Q_thumb B i (nI (5 * k))) (KC (enc nw sc B g) 0 12)) :: R)) rfl ?_
      refine g_aload_n (pc := 66) d_MO_bestThumb_66 rfl 3 rfl ?_
      refine g_iload_n (pc := 67) d_MO_bestThumb_67 rfl 4 rfl ?_
      refine g_iload_n (pc := 68) d_MO_bestThumb_68 rfl 5 rfl ?_
      refine g_cV1 (pc := 69) (ci := 7) (As := [.int _, .int _]) d_MO_bestThumb_69 rfl mv_MO_purseBehind st_MO_bestThumb_299 rfl rfl (by decide) rfl rfl (Nat.le_of_ble_eq_true rfl) k_m (cm_MO_purseBehind hM nd n6 s8 (Gd_sS hG (Sg_u (hG.sg hi) (by decide))) hU hi) ?_
      refine g_istore (pc := 72) (lv' := [(6, .int (Q_purse (Q_thumb B i (nI (5 * k))) nw sc ni i days)), (5, .int (nI (5 * k))), (4, .int (Q_best B nw sc ni i days k).2), (3, .int (Q_best B nw sc ni i days k).1), (0, .ref m), (1, .int (nI i)), (2, .int (nI days))]) d_MO_bestThumb_72 (by decide) rfl ?_
      refine g_iload (pc := 74) d_MO_bestThumb_74 0 rfl ?_
      refine g_iload (pc := 76) d_MO_bestThumb_76 2 rfl ?_
      refine g_icmp_gt (pc := 78) (tgt := 84) d_MO_bestThumb_78 (by decide) (fun c_78 => ?_) (fun c_78 => ?_)
      · skip
        refine g_iload (pc := 84) d_MO_bestThumb_84 0 rfl ?_
        refine g_istore (pc := 86) (lv' := [(4, .int (Q_purse (Q_thumb B i (nI (5 * k))) nw sc ni i days)), (6, .int (Q_purse (Q_thumb B i (nI (5 * k))) nw sc ni i days)), (5, .int (nI (5 * k))), (3, .int (Q_best B nw sc ni i days k).1), (0, .ref m), (1, .int (nI i)), (2, .int (nI days))]) d_MO_bestThumb_86 (by decide) rfl ?_
        refine g_iload (pc := 88) d_MO_bestThumb_88 2 rfl ?_
        refine g_istore_n (pc := 90) (lv' := [(3, .int (nI (5 * k))), (4, .int (Q_purse (Q_thumb B i (nI (5 * k))) nw sc ni i days)), (6, .int (Q_purse (Q_thumb B i (nI (5 * k))) nw sc ni i days)), (5, .int (nI (5 * k))), (0, .ref m), (1, .int (nI i)), (2, .int (nI days))]) d_MO_bestThumb_90 rfl (by decide) rfl ?_
        obtain ⟨x_1, hx_1⟩ : ∃ y : Int32, y = (nI (5 * k)) + 5 := ⟨_, rfl⟩
        refine g_iinc (pc := 91) (w := 3) (v := x_1) (lv' := [(5, .int x_1), (3, .int (nI (5 * k))), (4, .int (Q_purse (Q_thumb B i (nI (5 * k))) nw sc ni i days)), (6, .int (Q_purse (Q_thumb B i (nI (5 * k))) nw sc ni i days)), (0, .ref m), (1, .int (nI i)), (2, .int (nI days))]) d_MO_bestThumb_91 rfl (by rw [hx_1]; rfl) (by decide) rfl ?_
        refine g_goto (pc := 94) (tgt := 43) d_MO_bestThumb_94 (by decide) ?_
        have e8 : x_1 = nI (5 * (k + 1)) := by rw [hx_1]; exact nI_add (5 * k) 5
        clear hx_1
        subst e8
        refine g_perm [0, 2, 1, 4, 5, 6] rfl ?_
        have ih9 := ih (k + 1) (KC (enc nw sc B g) 0 12) (KC_idem n6 s8) (Or.inr rfl) (by omega) (by omega)
        rw [Q_best] at ih9
        rw [if_neg (Int32.not_le.mpr c_78)] at ih9
        exact ih9
      · skip
        refine g_goto (pc := 81) (tgt := 91) d_MO_bestThumb_81 (by decide) ?_
        obtain ⟨x_2, hx_2⟩ : ∃ y : Int32, y = (nI (5 * k)) + 5 := ⟨_, rfl⟩
        refine g_iinc (pc := 91) (w := 1) (v := x_2) (lv' := [(5, .int x_2), (6, .int (Q_purse (Q_thumb B i (nI (5 * k))) nw sc ni i days)), (4, .int (Q_best B nw sc ni i days k).2), (3, .int (Q_best B nw sc ni i days k).1), (0, .ref m), (1, .int (nI i)), (2, .int (nI days))]) d_MO_bestThumb_91 rfl (by rw [hx_2]; rfl) (by decide) rfl ?_
        refine g_goto (pc := 94) (tgt := 43) d_MO_bestThumb_94 (by decide) ?_
        have e8 : x_2 = nI (5 * (k + 1)) := by rw [hx_2]; exact nI_add (5 * k) 5
        clear hx_2
        subst e8
        refine g_perm [0, 2, 3, 4, 5, 6] rfl ?_
        have ih9 := ih (k + 1) (KC (enc nw sc B g) 0 12) (KC_idem n6 s8) (Or.inr rfl) (by omega) (by omega)
        rw [Q_best] at ih9
        rw [if_pos (Int32.not_lt.mp c_78)] at ih9
        exact ih9
set_option maxRecDepth 20000 in
theorem cm_MO_bestThumb {E : En} {h : Hp} {m st nw sc : Nat} {c g : Nat → Int32} {B : Bu} {R : List (Nat × (Nat → Int32))} {ni U : Nat} {i : Nat} {days : Nat} (hM : MoOk h m st) (nd : (m :: st :: R.map Prod.fst).Nodup) (hG : Gd B nw sc ni U) (hi : i < sc) (hU : U + days ≤ 2000000000) (hr1 : (1 : Int32) ≤ nI days) (hr2 : nI days ≤ 100) : CR E m_MO_bestThumb [.ref m, .int (nI i), .int (nI days)] (wL h ((m, c) :: (st, enc nw sc B g) :: R)) (some (.int (Q_best B nw sc ni i days 21).1)) (wL h ((m, (u1 c 17 0)) :: (st, enc nw sc B (KC (enc nw sc B g) 0 12)) :: R)) := by
  refine ct_of rfl (by decide +kernel) (Nat.le_of_ble_eq_true rfl) ?_
  show G E m_MO_bestThumb 0 [(0, .ref m), (1, .int (nI i)), (2, .int (nI days))] [] (wL h ((m, c) :: (st, enc nw sc B g) :: R)) 0 0 _ noX
  obtain ⟨k_m, r_m_0, k_st, l_st⟩ := id hM
  obtain ⟨hw, n6, hs, s8, h0, hni, n3, ⟨sd, hsd, hsx⟩, hop⟩ := id hG.1
  refine g_aload_n (pc := 0) d_MO_bestThumb_0 rfl 0 rfl ?_
  refine g_iload_n (pc := 1) d_MO_bestThumb_1 rfl 1 rfl ?_
  refine g_cV1 (pc := 2) (ci := 7) (As := [.int _]) d_MO_bestThumb_2 rfl mv_MO_lacksShop st_MO_bestThumb_284 rfl rfl (by decide) rfl rfl (Nat.le_of_ble_eq_true rfl) k_m (cm_MO_lacksShop hM nd hG hi) ?_
  refine g_if_ne (pc := 5) (tgt := 31) d_MO_bestThumb_5 (by decide) (fun c_5 => ?_) (fun c_5 => ?_)
  · exact (c_5 (by decide)).elim
  · skip
    refine g_aload_n (pc := 8) d_MO_bestThumb_8 rfl 0 rfl ?_
    refine g_iload_n (pc := 9) d_MO_bestThumb_9 rfl 2 rfl ?_
    refine g_iconst (pc := 10) (v := 1) d_MO_bestThumb_10 (by decide) ?_
    refine g_bipush (pc := 11) (v := 100) d_MO_bestThumb_11 (by decide) ?_
    refine g_cS1 (pc := 13) (As := [.int _, .int _, .int _]) d_MO_bestThumb_13 rfl ms_MO_in st_MO_bestThumb_161 rfl rfl (Nat.le_of_ble_eq_true rfl) (cm_MO_in_t hr1 hr2) ?_
    refine g_if_ne (pc := 16) (tgt := 23) d_MO_bestThumb_16 (by decide) (fun c_16 => ?_) (fun c_16 => ?_)
    · skip
      refine g_iconst (pc := 23) (v := 0) d_MO_bestThumb_23 (by decide) ?_
      refine g_iconst (pc := 24) (v := 2) d_MO_bestThumb_24 (by decide) ?_
      refine g_cV1 (pc := 25) (ci := 7) (As := [.int _, .int _]) d_MO_bestThumb_25 rfl mv_MO_throwsIf st_MO_bestThumb_154 rfl rfl (by decide) rfl rfl (Nat.le_of_ble_eq_true rfl) k_m (cm_MO_throwsIf_f k_m nd) ?_
      refine g_if_eq (pc := 28) (tgt := 33) d_MO_bestThumb_28 (by decide) (fun c_28 => ?_) (fun c_28 => ?_)
      · skip
        refine g_iconst (pc := 33) (v := 0) d_MO_bestThumb_33 (by decide) ?_
        refine g_nameI (fun x_1 hx_1 => ?_)
        refine g_istore_n (pc := 34) (lv' := [(3, .int x_1), (0, .ref m), (1, .int (nI i)), (2, .int (nI days))]) d_MO_bestThumb_34 rfl (by decide) rfl ?_
        refine g_ldcwi (pc := 35) d_MO_bestThumb_35 co_MO_302 ?_
        refine g_nameI (fun x_2 hx_2 => ?_)
        refine g_istore (pc := 38) (lv' := [(4, .int x_2), (3, .int x_1), (0, .ref m), (1, .int (nI i)), (2, .int (nI days))]) d_MO_bestThumb_38 (by decide) rfl ?_
        refine g_iconst (pc := 40) (v := 0) d_MO_bestThumb_40 (by decide) ?_
        refine g_nameI (fun x_3 hx_3 => ?_)
        refine g_istore (pc := 41) (lv' := [(5, .int x_3), (4, .int x_2), (3, .int x_1), (0, .ref m), (1, .int (nI i)), (2, .int (nI days))]) d_MO_bestThumb_41 (by decide) rfl ?_
        rw [hx_1, hx_2, hx_3]
        clear hx_1 hx_2 hx_3
        exact lp_MO_bestThumb (c := u1 c 17 0) (g := g) hM nd hG hU hi 22 0 g rfl (Or.inl rfl) (by omega) (by omega)
      · exact (c_28 (by decide)).elim
    · exact absurd c_16 (by decide)
theorem lp_MO_mostFined {E : En} {h : Hp} {m st nw sc : Nat} {c g : Nat → Int32} {B : Bu} {R : List (Nat × (Nat → Int32))} {ni U : Nat} (hM : MoOk h m st) (nd : (m :: st :: R.map Prod.fst).Nodup) (hG : Gd B nw sc ni U) : ∀ (d k t : Nat), (k = 0 ∨ k + 1 ≤ sc) → t = Q_fined B.2.2 k → sc - k < d → G E m_MO_mostFined 9 [(2, .int (nI (k + 1))), (1, .int (nI t)), (0, .ref m)] [] (wL h ((m, c) :: (st, enc nw sc B g) :: R)) 0 0 (fun v1 h1 => v1 = some (.int (nI (Q_fined B.2.2 (sc - 1)))) ∧ h1 = wL h ((m, c) :: (st, enc nw sc B g) :: R)) noX := by
  obtain ⟨k_m, r_m_0, k_st, l_st⟩ := id hM
  intro d
  induction d with
  | zero => intros; omega
  | succ d ih =>
    intro k t hk ht hd
    obtain ⟨hw, n6, hs, s8, h0, hni, n3, ⟨sd, hsd, hsx⟩, hop⟩ := id hG.1
    refine g_iload_n (pc := 9) d_MO_mostFined_9 rfl 0 rfl ?_
    refine g_aload_n (pc := 10) d_MO_mostFined_10 rfl 2 rfl ?_
    refine g_getR (pc := 11) (ci := 7) (f := 0) (b := st) rfl r_m_0 d_MO_mostFined_11 fl_MO_7 (by decide) k_m ?_
    refine g_bipush (pc := 14) (v := 8) d_MO_mostFined_14 (by decide) ?_
    refine g_mI (pc := 16) (k := 8) d_MO_mostFined_16 k_st l_st (by decide) nd ?_
    refine g_icmp_ge (pc := 17) (tgt := 45) d_MO_mostFined_17 (by decide) (fun c_17 => ?_) (fun c_17 => ?_)
    · skip
      have e9 : sc ≤ k + 1 := by rw [hs] at c_17; exact (nI_leI (by omega) (by omega)).mp c_17
      refine g_iload_n (pc := 45) d_MO_mostFined_45 rfl 1 rfl ?_
      refine g_iret (pc := 46) d_MO_mostFined_46 rfl ?_
      refine ⟨?_, rfl⟩
      rw [ht]
      exact congrArg (fun q => some (Value.int (nI (Q_fined B.2.2 q)))) (by omega)
    · skip
      have e9 : k + 1 < sc := by rw [hs] at c_17; exact Nat.lt_of_not_le (fun z => c_17 ((nI_leI (by omega) (by omega)).mpr z))
      have e7 : t ≤ k := by rw [ht]; exact Q_fined_le B.2.2 k
      refine g_aload_n (pc := 20) d_MO_mostFined_20 rfl 2 rfl ?_
      refine g_iload_n (pc := 21) d_MO_mostFined_21 rfl 0 rfl ?_
      refine g_bipush (pc := 22) (v := 13) d_MO_mostFined_22 (by decide) ?_
      refine g_cV1 (pc := 24) (ci := 7) (As := [.int _, .int _]) d_MO_mostFined_24 rfl mv_MO_of st_MO_mostFined_69 rfl rfl (by decide) rfl rfl (Nat.le_of_ble_eq_true rfl) k_m (cm_MO_of (k := 13) hM nd n6 s8 (by first | assumption | omega | decide) (by decide)) ?_
      refine g_aload_n (pc := 27) d_MO_mostFined_27 rfl 2 rfl ?_
      refine g_iload_n (pc := 28) d_MO_mostFined_28 rfl 1 rfl ?_
      refine g_bipush (pc := 29) (v := 13) d_MO_mostFined_29 (by decide) ?_
      refine g_cV1 (pc := 31) (ci := 7) (As := [.int _, .int _]) d_MO_mostFined_31 rfl mv_MO_of st_MO_mostFined_69 rfl rfl (by decide) rfl rfl (Nat.le_of_ble_eq_true rfl) k_m (cm_MO_of (k := 13) hM nd n6 s8 (by first | assumption | omega | decide) (by decide)) ?_
      refine g_icmp_le (pc := 34) (tgt := 39) d_MO_mostFined_34 (by decide) (fun c_34 => ?_) (fun c_34 => ?_)
      · skip
        obtain ⟨x_1, hx_1⟩ : ∃ y : Int32, y = (nI (k + 1)) + 1 := ⟨_, rfl⟩
        refine g_iinc (pc := 39) (w := 0) (v := x_1) (lv' := [(2, .int x_1), (1, .int (nI t)), (0, .ref m)]) d_MO_mostFined_39 rfl (by rw [hx_1]; rfl) (by decide) rfl ?_
        refine g_goto (pc := 42) (tgt := 9) d_MO_mostFined_42 (by decide) ?_
        have e8 : x_1 = nI (k + 1 + 1) := by rw [hx_1]; exact nI_1 _
        clear hx_1
        subst e8
        refine g_perm [0, 1, 2] rfl ?_
        refine ih (k + 1) _ (by omega) ?_ (by omega)
        rw [Q_fined, ← ht]
        first | (rw [if_pos c_34]; done) | (rw [if_neg c_34]; done)
      · skip
        refine g_iload_n (pc := 37) d_MO_mostFined_37 rfl 0 rfl ?_
        refine g_istore_n (pc := 38) (lv' := [(1, .int (nI (k + 1))), (2, .int (nI (k + 1))), (0, .ref m)]) d_MO_mostFined_38 rfl (by decide) rfl ?_
        obtain ⟨x_2, hx_2⟩ : ∃ y : Int32, y = (nI (k + 1)) + 1 := ⟨_, rfl⟩
        refine g_iinc (pc := 39) (w := 1) (v := x_2) (lv' := [(2, .int x_2), (1, .int (nI (k + 1))), (0, .ref m)]) d_MO_mostFined_39 rfl (by rw [hx_2]; rfl) (by decide) rfl ?_
        refine g_goto (pc := 42) (tgt := 9) d_MO_mostFined_42 (by decide) ?_
        have e8 : x_2 = nI (k + 1 + 1) := by rw [hx_2]; exact nI_1 _
        clear hx_2
        subst e8
        refine g_perm [0, 1, 2] rfl ?_
        refine ih (k + 1) _ (by omega) ?_ (by omega)
        rw [Q_fined, ← ht]
        first | (rw [if_pos c_34]; done) | (rw [if_neg c_34]; done)
set_option maxRecDepth 20000 in
theorem cm_MO_mostFined {E : En} {h : Hp} {m st nw sc : Nat} {c g : Nat → Int32} {B : Bu} {R : List (Nat × (Nat → Int32))} {ni U : Nat} (hM : MoOk h m st) (nd : (m :: st :: R.map Prod.fst).Nodup) (hG : Gd B nw sc ni U) : CR E m_MO_mostFined [.ref m] (wL h ((m, c) :: (st, enc nw sc B g) :: R)) (some (.int (nI (Q_fined B.2.2 (sc - 1))))) (wL h ((m, (u1 c 17 0)) :: (st, enc nw sc B g) :: R)) := by
  refine ct_of rfl (by decide +kernel) (Nat.le_of_ble_eq_true rfl) ?_
  show G E m_MO_mostFined 0 [(0, .ref m)] [] (wL h ((m, c) :: (st, enc nw sc B g) :: R)) 0 0 _ noX
  obtain ⟨k_m, r_m_0, k_st, l_st⟩ := id hM
  obtain ⟨hw, n6, hs, s8, h0, hni, n3, ⟨sd, hsd, hsx⟩, hop⟩ := id hG.1
  refine g_aload_n (pc := 0) d_MO_mostFined_0 rfl 0 rfl ?_
  refine g_iconst (pc := 1) (v := 0) d_MO_mostFined_1 (by decide) ?_
  refine g_lpI0 (pc := 2) (ci := 7) (f := 17) rfl d_MO_mostFined_2 fl_MO_52 (fun q hq => by cases hq; exact rfl) rfl rfl (by decide) k_m nd ?_
  refine g_iconst (pc := 5) (v := 0) d_MO_mostFined_5 (by decide) ?_
  refine g_nameI (fun x_1 hx_1 => ?_)
  refine g_istore_n (pc := 6) (lv' := [(1, .int x_1), (0, .ref m)]) d_MO_mostFined_6 rfl (by decide) rfl ?_
  refine g_iconst (pc := 7) (v := 1) d_MO_mostFined_7 (by decide) ?_
  refine g_nameI (fun x_2 hx_2 => ?_)
  refine g_istore_n (pc := 8) (lv' := [(2, .int x_2), (1, .int x_1), (0, .ref m)]) d_MO_mostFined_8 rfl (by decide) rfl ?_
  subst hx_1
  subst hx_2
  exact lp_MO_mostFined hM nd hG (sc + 1) 0 0 (Or.inl rfl) rfl (by omega)
theorem lp_MO_expiringStamps {E : En} {h : Hp} {m st nw sc : Nat} {c g : Nat → Int32} {B : Bu} {R : List (Nat × (Nat → Int32))} {ni U : Nat} {x : Int32} (hM : MoOk h m st) (nd : (m :: st :: R.map Prod.fst).Nodup) (hG : Gd B nw sc ni U) : ∀ (d k : Nat), k ≤ sc → sc - k < d → G E m_MO_expiringStamps 35 [(3, .int (nI k)), (2, .int (nI (Q_exp B.2.2 (B.1 9) (B.1 9 + x) k))), (0, .ref m), (1, .int x)] [] (wL h ((m, c) :: (st, enc nw sc B g) :: R)) 0 0 (fun v1 h1 => v1 = some (.int (nI (Q_exp B.2.2 (B.1 9) (B.1 9 + x) sc))) ∧ h1 = wL h ((m, c) :: (st, enc nw sc B g) :: R)) noX := by
  obtain ⟨k_m, r_m_0, k_st, l_st⟩ := id hM
  intro d
  induction d with
  | zero => intros; omega
  | succ d ih =>
    intro k hk hd
    obtain ⟨hw, n6, hs, s8, h0, hni, n3, ⟨sd, hsd, hsx⟩, hop⟩ := id hG.1
    refine g_iload_n (pc := 35) d_MO_expiringStamps_35 rfl 0 rfl ?_
    refine g_aload_n (pc := 36) d_MO_expiringStamps_36 rfl 2 rfl ?_
    refine g_getR (pc := 37) (ci := 7) (f := 0) (b := st) rfl r_m_0 d_MO_expiringStamps_37 fl_MO_7 (by decide) k_m ?_
    refine g_bipush (pc := 40) (v := 8) d_MO_expiringStamps_40 (by decide) ?_
    refine g_mI (pc := 42) (k := 8) d_MO_expiringStamps_42 k_st l_st (by decide) nd ?_
    refine g_icmp_ge (pc := 43) (tgt := 82) d_MO_expiringStamps_43 (by decide) (fun c_43 => ?_) (fun c_43 => ?_)
    · skip
      have e9 : k = sc := by rw [hs] at c_43; have := (nI_leI (by omega) (by omega)).mp c_43; omega
      refine g_iload_n (pc := 82) d_MO_expiringStamps_82 rfl 1 rfl ?_
      refine g_iret (pc := 83) d_MO_expiringStamps_83 rfl ?_
      rw [e9]
      exact ⟨rfl, rfl⟩
    · skip
      have e9 : k < sc := by rw [hs] at c_43; exact Nat.lt_of_not_le (fun z => c_43 ((nI_leI (by omega) (by omega)).mpr z))
      refine g_aload_n (pc := 46) d_MO_expiringStamps_46 rfl 2 rfl ?_
      refine g_iload_n (pc := 47) d_MO_expiringStamps_47 rfl 0 rfl ?_
      refine g_cV1 (pc := 48) (ci := 7) (As := [.int _]) d_MO_expiringStamps_48 rfl mv_MO_isValid st_MO_expiringStamps_103 rfl rfl (by decide) rfl rfl (Nat.le_of_ble_eq_true rfl) k_m (cm_MO_isValid hM nd n6 s8 (by first | assumption | omega | decide)) ?_
      refine g_if_eq (pc := 51) (tgt := 76) d_MO_expiringStamps_51 (by decide) (fun c_51 => ?_) (fun c_51 => ?_)
      · skip
        obtain ⟨x_1, hx_1⟩ : ∃ y : Int32, y = (nI k) + 1 := ⟨_, rfl⟩
        refine g_iinc (pc := 76) (w := 0) (v := x_1) (lv' := [(3, .int x_1), (2, .int (nI (Q_exp B.2.2 (B.1 9) (B.1 9 + x) k))), (0, .ref m), (1, .int x)]) d_MO_expiringStamps_76 rfl (by rw [hx_1]; rfl) (by decide) rfl ?_
        refine g_goto (pc := 79) (tgt := 35) d_MO_expiringStamps_79 (by decide) ?_
        have e8 : x_1 = nI (k + 1) := by rw [hx_1]; exact nI_1 _
        clear hx_1
        subst e8
        rw [show Q_exp B.2.2 (B.1 9) (B.1 9 + x) k = Q_exp B.2.2 (B.1 9) (B.1 9 + x) (k + 1) from by
          rw [Q_exp, if_neg ?_]
          intro z
          first | exact of_decide_eq_false (bI_0.mp c_51) z.1 | exact absurd z.2 (Int32.not_lt.mpr c_70)]
        refine g_perm [0, 1, 2, 3] rfl ?_
        exact ih (k + 1) (by omega) (by omega)
      · skip
        refine g_aload_n (pc := 54) d_MO_expiringStamps_54 rfl 2 rfl ?_
        refine g_iload_n (pc := 55) d_MO_expiringStamps_55 rfl 0 rfl ?_
        refine g_bipush (pc := 56) (v := 11) d_MO_expiringStamps_56 (by decide) ?_
        refine g_cV1 (pc := 58) (ci := 7) (As := [.int _, .int _]) d_MO_expiringStamps_58 rfl mv_MO_of st_MO_expiringStamps_69 rfl rfl (by decide) rfl rfl (Nat.le_of_ble_eq_true rfl) k_m (cm_MO_of (k := 11) hM nd n6 s8 (by first | assumption | omega | decide) (by decide)) ?_
        refine g_aload_n (pc := 61) d_MO_expiringStamps_61 rfl 2 rfl ?_
        refine g_getR (pc := 62) (ci := 7) (f := 0) (b := st) rfl r_m_0 d_MO_expiringStamps_62 fl_MO_7 (by decide) k_m ?_
        refine g_bipush (pc := 65) (v := 9) d_MO_expiringStamps_65 (by decide) ?_
        refine g_mI (pc := 67) (k := 9) d_MO_expiringStamps_67 k_st l_st (by decide) nd ?_
        refine g_iload_n (pc := 68) d_MO_expiringStamps_68 rfl 3 rfl ?_
        refine g_iadd (pc := 69) d_MO_expiringStamps_69 ?_
        refine g_icmp_ge (pc := 70) (tgt := 76) d_MO_expiringStamps_70 (by decide) (fun c_70 => ?_) (fun c_70 => ?_)
        · skip
          obtain ⟨x_2, hx_2⟩ : ∃ y : Int32, y = (nI k) + 1 := ⟨_, rfl⟩
          refine g_iinc (pc := 76) (w := 0) (v := x_2) (lv' := [(3, .int x_2), (2, .int (nI (Q_exp B.2.2 (B.1 9) (B.1 9 + x) k))), (0, .ref m), (1, .int x)]) d_MO_expiringStamps_76 rfl (by rw [hx_2]; rfl) (by decide) rfl ?_
          refine g_goto (pc := 79) (tgt := 35) d_MO_expiringStamps_79 (by decide) ?_
          have e8 : x_2 = nI (k + 1) := by rw [hx_2]; exact nI_1 _
          clear hx_2
          subst e8
          rw [show Q_exp B.2.2 (B.1 9) (B.1 9 + x) k = Q_exp B.2.2 (B.1 9) (B.1 9 + x) (k + 1) from by
            rw [Q_exp, if_neg ?_]
            intro z
            first | exact of_decide_eq_false (bI_0.mp c_51) z.1 | exact absurd z.2 (Int32.not_lt.mpr c_70)]
          refine g_perm [0, 1, 2, 3] rfl ?_
          exact ih (k + 1) (by omega) (by omega)
        · skip
          obtain ⟨x_3, hx_3⟩ : ∃ y : Int32, y = (nI (Q_exp B.2.2 (B.1 9) (B.1 9 + x) k)) + 1 := ⟨_, rfl⟩
          refine g_iinc (pc := 73) (w := 1) (v := x_3) (lv' := [(2, .int x_3), (3, .int (nI k)), (0, .ref m), (1, .int x)]) d_MO_expiringStamps_73 rfl (by rw [hx_3]; rfl) (by decide) rfl ?_
          obtain ⟨x_4, hx_4⟩ : ∃ y : Int32, y = (nI k) + 1 := ⟨_, rfl⟩
          refine g_iinc (pc := 76) (w := 1) (v := x_4) (lv' := [(3, .int x_4), (2, .int x_3), (0, .ref m), (1, .int x)]) d_MO_expiringStamps_76 rfl (by rw [hx_4]; rfl) (by decide) rfl ?_
          refine g_goto (pc := 79) (tgt := 35) d_MO_expiringStamps_79 (by decide) ?_
          have e8 : x_4 = nI (k + 1) := by rw [hx_4]; exact nI_1 _
          clear hx_4
          subst e8
          have e7 : x_3 = nI (Q_exp B.2.2 (B.1 9) (B.1 9 + x) (k + 1)) := by rw [hx_3, Q_exp, if_pos ⟨of_decide_eq_true (bI_n0 c_51), Int32.not_le.mp c_70⟩]; exact nI_1 _
          clear hx_3
          subst e7
          refine g_perm [0, 1, 2, 3] rfl ?_
          exact ih (k + 1) (by omega) (by omega)
set_option maxRecDepth 20000 in
theorem cm_MO_expiringStamps {E : En} {h : Hp} {m st nw sc : Nat} {c g : Nat → Int32} {B : Bu} {R : List (Nat × (Nat → Int32))} {ni U : Nat} {x : Int32} (hM : MoOk h m st) (nd : (m :: st :: R.map Prod.fst).Nodup) (hG : Gd B nw sc ni U) (hr1 : 0 ≤ x) (hr2 : x ≤ 200) : CR E m_MO_expiringStamps [.ref m, .int x] (wL h ((m, c) :: (st, enc nw sc B g) :: R)) (some (.int (nI (Q_exp B.2.2 (B.1 9) (B.1 9 + x) sc)))) (wL h ((m, (u1 c 17 0)) :: (st, enc nw sc B g) :: R)) := by
  refine ct_of rfl (by decide +kernel) (Nat.le_of_ble_eq_true rfl) ?_
  show G E m_MO_expiringStamps 0 [(0, .ref m), (1, .int x)] [] (wL h ((m, c) :: (st, enc nw sc B g) :: R)) 0 0 _ noX
  obtain ⟨k_m, r_m_0, k_st, l_st⟩ := id hM
  obtain ⟨hw, n6, hs, s8, h0, hni, n3, ⟨sd, hsd, hsx⟩, hop⟩ := id hG.1
  refine g_aload_n (pc := 0) d_MO_expiringStamps_0 rfl 0 rfl ?_
  refine g_iconst (pc := 1) (v := 0) d_MO_expiringStamps_1 (by decide) ?_
  refine g_lpI0 (pc := 2) (ci := 7) (f := 17) rfl d_MO_expiringStamps_2 fl_MO_52 (fun q hq => by cases hq; exact rfl) rfl rfl (by decide) k_m nd ?_
  refine g_aload_n (pc := 5) d_MO_expiringStamps_5 rfl 0 rfl ?_
  refine g_iload_n (pc := 6) d_MO_expiringStamps_6 rfl 1 rfl ?_
  refine g_iconst (pc := 7) (v := 0) d_MO_expiringStamps_7 (by decide) ?_
  refine g_sipush (pc := 8) (v := 200) d_MO_expiringStamps_8 (by decide) ?_
  refine g_cS1 (pc := 11) (As := [.int _, .int _, .int _]) d_MO_expiringStamps_11 rfl ms_MO_in st_MO_expiringStamps_161 rfl rfl (Nat.le_of_ble_eq_true rfl) (cm_MO_in_t hr1 hr2) ?_
  refine g_if_ne (pc := 14) (tgt := 21) d_MO_expiringStamps_14 (by decide) (fun c_14 => ?_) (fun c_14 => ?_)
  · skip
    refine g_iconst (pc := 21) (v := 0) d_MO_expiringStamps_21 (by decide) ?_
    refine g_iconst (pc := 22) (v := 1) d_MO_expiringStamps_22 (by decide) ?_
    refine g_cV1 (pc := 23) (ci := 7) (As := [.int _, .int _]) d_MO_expiringStamps_23 rfl mv_MO_throwsIf st_MO_expiringStamps_154 rfl rfl (by decide) rfl rfl (Nat.le_of_ble_eq_true rfl) k_m (cm_MO_throwsIf_f k_m nd) ?_
    refine g_if_eq (pc := 26) (tgt := 31) d_MO_expiringStamps_26 (by decide) (fun c_26 => ?_) (fun c_26 => ?_)
    · skip
      refine g_iconst (pc := 31) (v := 0) d_MO_expiringStamps_31 (by decide) ?_
      refine g_nameI (fun x_1 hx_1 => ?_)
      refine g_istore_n (pc := 32) (lv' := [(2, .int x_1), (0, .ref m), (1, .int x)]) d_MO_expiringStamps_32 rfl (by decide) rfl ?_
      refine g_iconst (pc := 33) (v := 0) d_MO_expiringStamps_33 (by decide) ?_
      refine g_nameI (fun x_2 hx_2 => ?_)
      refine g_istore_n (pc := 34) (lv' := [(3, .int x_2), (2, .int x_1), (0, .ref m), (1, .int x)]) d_MO_expiringStamps_34 rfl (by decide) rfl ?_
      subst hx_1
      subst hx_2
      exact lp_MO_expiringStamps hM nd hG (sc + 1) 0 (Nat.zero_le _) (by omega)
    · exact (c_26 (by decide)).elim
  · exact absurd c_14 (by decide)
set_option maxRecDepth 20000 in
theorem cm_MO_expiringStampsR {E : En} {h : Hp} {m st nw sc : Nat} {c g : Nat → Int32} {B : Bu} {R : List (Nat × (Nat → Int32))} {ni U : Nat} {x : Int32} (hM : MoOk h m st) (nd : (m :: st :: R.map Prod.fst).Nodup) (hG : Gd B nw sc ni U) (hrn : x < 0 ∨ 200 < x) : CR E m_MO_expiringStamps [.ref m, .int x] (wL h ((m, c) :: (st, enc nw sc B g) :: R)) (some (.int 0)) (wL h ((m, (u1 c 17 1)) :: (st, enc nw sc B g) :: R)) := by
  refine ct_of rfl (by decide +kernel) (Nat.le_of_ble_eq_true rfl) ?_
  show G E m_MO_expiringStamps 0 [(0, .ref m), (1, .int x)] [] (wL h ((m, c) :: (st, enc nw sc B g) :: R)) 0 0 _ noX
  obtain ⟨k_m, r_m_0, k_st, l_st⟩ := id hM
  obtain ⟨hw, n6, hs, s8, h0, hni, n3, ⟨sd, hsd, hsx⟩, hop⟩ := id hG.1
  refine g_aload_n (pc := 0) d_MO_expiringStamps_0 rfl 0 rfl ?_
  refine g_iconst (pc := 1) (v := 0) d_MO_expiringStamps_1 (by decide) ?_
  refine g_lpI0 (pc := 2) (ci := 7) (f := 17) rfl d_MO_expiringStamps_2 fl_MO_52 (fun q hq => by cases hq; exact rfl) rfl rfl (by decide) k_m nd ?_
  refine g_aload_n (pc := 5) d_MO_expiringStamps_5 rfl 0 rfl ?_
  refine g_iload_n (pc := 6) d_MO_expiringStamps_6 rfl 1 rfl ?_
  refine g_iconst (pc := 7) (v := 0) d_MO_expiringStamps_7 (by decide) ?_
  refine g_sipush (pc := 8) (v := 200) d_MO_expiringStamps_8 (by decide) ?_
  refine g_cS1 (pc := 11) (As := [.int _, .int _, .int _]) d_MO_expiringStamps_11 rfl ms_MO_in st_MO_expiringStamps_161 rfl rfl (Nat.le_of_ble_eq_true rfl) (cm_MO_in_f hrn) ?_
  refine g_if_ne (pc := 14) (tgt := 21) d_MO_expiringStamps_14 (by decide) (fun c_14 => ?_) (fun c_14 => ?_)
  · exact (c_14 (by decide)).elim
  · skip
    refine g_iconst (pc := 17) (v := 1) d_MO_expiringStamps_17 (by decide) ?_
    refine g_goto (pc := 18) (tgt := 22) d_MO_expiringStamps_18 (by decide) ?_
    refine g_iconst (pc := 22) (v := 1) d_MO_expiringStamps_22 (by decide) ?_
    refine g_cV1 (pc := 23) (ci := 7) (As := [.int _, .int _]) d_MO_expiringStamps_23 rfl mv_MO_throwsIf st_MO_expiringStamps_154 rfl rfl (by decide) rfl rfl (Nat.le_of_ble_eq_true rfl) k_m (cm_MO_throwsIf_t k_m nd) ?_
    refine g_if_eq (pc := 26) (tgt := 31) d_MO_expiringStamps_26 (by decide) (fun c_26 => ?_) (fun c_26 => ?_)
    · exact absurd c_26 (by decide)
    · skip
      refine g_iconst (pc := 29) (v := 0) d_MO_expiringStamps_29 (by decide) ?_
      refine g_iret (pc := 30) d_MO_expiringStamps_30 rfl ?_
      first | exact ⟨rfl, rfl⟩ | (rw [u1_u1]; exact ⟨rfl, rfl⟩)
theorem lp_MO_daysUntilClosed {E : En} {h : Hp} {m st nw sc : Nat} {c g : Nat → Int32} {B : Bu} {R : List (Nat × (Nat → Int32))} {ni U : Nat} {i : Nat} (hM : MoOk h m st) (nd : (m :: st :: R.map Prod.fst).Nodup) (n6 : nw ≤ 6) (s8 : sc ≤ 8) (hi : i < sc) (hU : U ≤ 1999999000) : ∀ (d k : Nat) (B1 : Bu), Gd B1 nw sc ni (U + k) → k + d = 200 → G E m_MO_daysUntilClosed 19 [(2, .int (nI k)), (0, .ref m), (1, .int (nI i))] [] (wL h ((m, c) :: (st, enc nw sc B1 (KC (enc nw sc B g) 0 12)) :: R)) 0 0 (fun v1 h1 => v1 = some (.int (Q_closed nw sc ni i (d + 1) k B1)) ∧ h1 = wL h ((m, c) :: (st, enc nw sc B (KC (enc nw sc B g) 0 12)) :: R)) noX := by
  obtain ⟨k_m, r_m_0, k_st, l_st⟩ := id hM
  intro d
  induction d with
  | zero =>
    intro k B1 hG hd
    refine g_aload_n (pc := 19) d_MO_daysUntilClosed_19 rfl 1 rfl ?_
    refine g_iload_n (pc := 20) d_MO_daysUntilClosed_20 rfl 2 rfl ?_
    refine g_cV1 (pc := 21) (ci := 7) (As := [.int _]) d_MO_daysUntilClosed_21 rfl mv_MO_isOpenShop st_MO_daysUntilClosed_115 rfl rfl (by decide) rfl rfl (Nat.le_of_ble_eq_true rfl) k_m (cm_MO_isOpenShop hM nd n6 s8 hi (hG.op hi)) ?_
    refine g_if_eq (pc := 24) (tgt := 44) d_MO_daysUntilClosed_24 (by decide) (fun c_24 => ?_) (fun c_24 => ?_)
    · skip
      have z1 : B1.2.2 i 12 = 0 := Decidable.not_not.mp (of_decide_eq_false (bI_0.mp c_24))
      refine g_aload_n (pc := 44) d_MO_daysUntilClosed_44 rfl 1 rfl ?_
      refine g_aload_n (pc := 45) d_MO_daysUntilClosed_45 rfl 1 rfl ?_
      refine g_iload_n (pc := 46) d_MO_daysUntilClosed_46 rfl 2 rfl ?_
      refine g_cV1 (pc := 47) (ci := 7) (As := [.int _]) d_MO_daysUntilClosed_47 rfl mv_MO_isOpenShop st_MO_daysUntilClosed_115 rfl rfl (by decide) rfl rfl (Nat.le_of_ble_eq_true rfl) k_m (cm_MO_isOpenShop hM nd n6 s8 hi (hG.op hi)) ?_
      refine g_if_eq (pc := 50) (tgt := 57) d_MO_daysUntilClosed_50 (by decide) (fun c_50 => ?_) (fun c_50 => ?_)
      · skip
        refine g_iload_n (pc := 57) d_MO_daysUntilClosed_57 rfl 0 rfl ?_
        refine g_cV1 (pc := 58) (ci := 7) (As := [.int _]) d_MO_daysUntilClosed_58 rfl mv_MO_endTrial st_MO_daysUntilClosed_296 rfl rfl (by decide) rfl rfl (Nat.le_of_ble_eq_true rfl) k_m (cm_MO_endTrial hM nd n6 s8) ?_
        refine g_iret (pc := 61) d_MO_daysUntilClosed_61 rfl ?_
        rw [Q_closed, if_pos z1]
        exact ⟨rfl, rfl⟩
      · exact absurd z1 (of_decide_eq_true (bI_n0 c_50))
    · skip
      have z1 : ¬ B1.2.2 i 12 = 0 := of_decide_eq_true (bI_n0 c_24)
      refine g_iload_n (pc := 27) d_MO_daysUntilClosed_27 rfl 0 rfl ?_
      refine g_sipush (pc := 28) (v := 200) d_MO_daysUntilClosed_28 (by decide) ?_
      refine g_icmp_ge (pc := 31) (tgt := 44) d_MO_daysUntilClosed_31 (by decide) (fun c_31 => ?_) (fun c_31 => ?_)
      · skip
        refine g_aload_n (pc := 44) d_MO_daysUntilClosed_44 rfl 1 rfl ?_
        refine g_aload_n (pc := 45) d_MO_daysUntilClosed_45 rfl 1 rfl ?_
        refine g_iload_n (pc := 46) d_MO_daysUntilClosed_46 rfl 2 rfl ?_
        refine g_cV1 (pc := 47) (ci := 7) (As := [.int _]) d_MO_daysUntilClosed_47 rfl mv_MO_isOpenShop st_MO_daysUntilClosed_115 rfl rfl (by decide) rfl rfl (Nat.le_of_ble_eq_true rfl) k_m (cm_MO_isOpenShop hM nd n6 s8 hi (hG.op hi)) ?_
        refine g_if_eq (pc := 50) (tgt := 57) d_MO_daysUntilClosed_50 (by decide) (fun c_50 => ?_) (fun c_50 => ?_)
        · exact absurd (Decidable.not_not.mp (of_decide_eq_false (bI_0.mp c_50))) z1
        · skip
          refine g_iconst (pc := 53) (v := (-1)) d_MO_daysUntilClosed_53 (by decide) ?_
          refine g_goto (pc := 54) (tgt := 58) d_MO_daysUntilClosed_54 (by decide) ?_
          refine g_cV1 (pc := 58) (ci := 7) (As := [.int _]) d_MO_daysUntilClosed_58 rfl mv_MO_endTrial st_MO_daysUntilClosed_296 rfl rfl (by decide) rfl rfl (Nat.le_of_ble_eq_true rfl) k_m (cm_MO_endTrial hM nd n6 s8) ?_
          refine g_iret (pc := 61) d_MO_daysUntilClosed_61 rfl ?_
          rw [Q_closed, if_neg z1]
          exact ⟨rfl, rfl⟩
      · exact absurd ((nI_leI (a := 200) (b := k) (by omega) (by omega)).mpr (by omega)) c_31
  | succ d ih =>
    intro k B1 hG hd
    refine g_aload_n (pc := 19) d_MO_daysUntilClosed_19 rfl 1 rfl ?_
    refine g_iload_n (pc := 20) d_MO_daysUntilClosed_20 rfl 2 rfl ?_
    refine g_cV1 (pc := 21) (ci := 7) (As := [.int _]) d_MO_daysUntilClosed_21 rfl mv_MO_isOpenShop st_MO_daysUntilClosed_115 rfl rfl (by decide) rfl rfl (Nat.le_of_ble_eq_true rfl) k_m (cm_MO_isOpenShop hM nd n6 s8 hi (hG.op hi)) ?_
    refine g_if_eq (pc := 24) (tgt := 44) d_MO_daysUntilClosed_24 (by decide) (fun c_24 => ?_) (fun c_24 => ?_)
    · skip
      have z1 : B1.2.2 i 12 = 0 := Decidable.not_not.mp (of_decide_eq_false (bI_0.mp c_24))
      refine g_aload_n (pc := 44) d_MO_daysUntilClosed_44 rfl 1 rfl ?_
      refine g_aload_n (pc := 45) d_MO_daysUntilClosed_45 rfl 1 rfl ?_
      refine g_iload_n (pc := 46) d_MO_daysUntilClosed_46 rfl 2 rfl ?_
      refine g_cV1 (pc := 47) (ci := 7) (As := [.int _]) d_MO_daysUntilClosed_47 rfl mv_MO_isOpenShop st_MO_daysUntilClosed_115 rfl rfl (by decide) rfl rfl (Nat.le_of_ble_eq_true rfl) k_m (cm_MO_isOpenShop hM nd n6 s8 hi (hG.op hi)) ?_
      refine g_if_eq (pc := 50) (tgt := 57) d_MO_daysUntilClosed_50 (by decide) (fun c_50 => ?_) (fun c_50 => ?_)
      · skip
        refine g_iload_n (pc := 57) d_MO_daysUntilClosed_57 rfl 0 rfl ?_
        refine g_cV1 (pc := 58) (ci := 7) (As := [.int _]) d_MO_daysUntilClosed_58 rfl mv_MO_endTrial st_MO_daysUntilClosed_296 rfl rfl (by decide) rfl rfl (Nat.le_of_ble_eq_true rfl) k_m (cm_MO_endTrial hM nd n6 s8) ?_
        refine g_iret (pc := 61) d_MO_daysUntilClosed_61 rfl ?_
        rw [Q_closed, if_pos z1]
        exact ⟨rfl, rfl⟩
      · exact absurd z1 (of_decide_eq_true (bI_n0 c_50))
    · skip
      have z1 : ¬ B1.2.2 i 12 = 0 := of_decide_eq_true (bI_n0 c_24)
      refine g_iload_n (pc := 27) d_MO_daysUntilClosed_27 rfl 0 rfl ?_
      refine g_sipush (pc := 28) (v := 200) d_MO_daysUntilClosed_28 (by decide) ?_
      refine g_icmp_ge (pc := 31) (tgt := 44) d_MO_daysUntilClosed_31 (by decide) (fun c_31 => ?_) (fun c_31 => ?_)
      · exact absurd ((nI_leI (a := 200) (by omega) (by omega)).mp c_31) (by omega)
      · skip
        refine g_aload_n (pc := 34) d_MO_daysUntilClosed_34 rfl 1 rfl ?_
        refine g_cV0 (pc := 35) (ci := 7) (As := []) d_MO_daysUntilClosed_35 rfl mv_MO_passOne st_MO_daysUntilClosed_145 rfl rfl (by decide) rfl rfl (Nat.le_of_ble_eq_true rfl) k_m (cm_MO_passOne hM nd hG (by omega)) ?_
        obtain ⟨x_1, hx_1⟩ : ∃ y : Int32, y = (nI k) + 1 := ⟨_, rfl⟩
        refine g_iinc (pc := 38) (w := 0) (v := x_1) (lv' := [(2, .int x_1), (0, .ref m), (1, .int (nI i))]) d_MO_daysUntilClosed_38 rfl (by rw [hx_1]; rfl) (by decide) rfl ?_
        refine g_goto (pc := 41) (tgt := 19) d_MO_daysUntilClosed_41 (by decide) ?_
        have e8 : x_1 = nI (k + 1) := by rw [hx_1]; exact nI_1 _
        clear hx_1
        subst e8
        rw [Q_closed, if_neg z1]
        exact ih (k + 1) (P_day nw sc ni (0, B1)).2 (by have := Gd_day (q := (0, B1)) hG (by omega); exact this) (by omega)
set_option maxRecDepth 20000 in
theorem cm_MO_daysUntilClosed {E : En} {h : Hp} {m st nw sc : Nat} {c g : Nat → Int32} {B : Bu} {R : List (Nat × (Nat → Int32))} {ni U : Nat} {i : Nat} (hM : MoOk h m st) (nd : (m :: st :: R.map Prod.fst).Nodup) (hG : Gd B nw sc ni U) (hU : U ≤ 1999999000) (hi : i < sc) : CR E m_MO_daysUntilClosed [.ref m, .int (nI i)] (wL h ((m, c) :: (st, enc nw sc B g) :: R)) (some (.int (Q_closed nw sc ni i 201 0 B))) (wL h ((m, (u1 c 17 0)) :: (st, enc nw sc B (KC (enc nw sc B g) 0 12)) :: R)) := by
  refine ct_of rfl (by decide +kernel) (Nat.le_of_ble_eq_true rfl) ?_
  show G E m_MO_daysUntilClosed 0 [(0, .ref m), (1, .int (nI i))] [] (wL h ((m, c) :: (st, enc nw sc B g) :: R)) 0 0 _ noX
  obtain ⟨k_m, r_m_0, k_st, l_st⟩ := id hM
  obtain ⟨hw, n6, hs, s8, h0, hni, n3, ⟨sd, hsd, hsx⟩, hop⟩ := id hG.1
  refine g_aload_n (pc := 0) d_MO_daysUntilClosed_0 rfl 0 rfl ?_
  refine g_iload_n (pc := 1) d_MO_daysUntilClosed_1 rfl 1 rfl ?_
  refine g_cV1 (pc := 2) (ci := 7) (As := [.int _]) d_MO_daysUntilClosed_2 rfl mv_MO_lacksShop st_MO_daysUntilClosed_284 rfl rfl (by decide) rfl rfl (Nat.le_of_ble_eq_true rfl) k_m (cm_MO_lacksShop hM nd hG hi) ?_
  refine g_if_eq (pc := 5) (tgt := 10) d_MO_daysUntilClosed_5 (by decide) (fun c_5 => ?_) (fun c_5 => ?_)
  · skip
    refine g_aload_n (pc := 10) d_MO_daysUntilClosed_10 rfl 0 rfl ?_
    refine g_iconst (pc := 11) (v := 0) d_MO_daysUntilClosed_11 (by decide) ?_
    refine g_bipush (pc := 12) (v := 12) d_MO_daysUntilClosed_12 (by decide) ?_
    refine g_cV0 (pc := 14) (ci := 7) (As := [.int _, .int _]) d_MO_daysUntilClosed_14 rfl mv_MO_copyBlock st_MO_daysUntilClosed_61 rfl rfl (by decide) rfl rfl (Nat.le_of_ble_eq_true rfl) k_m (cm_copy12 hM nd n6 s8) ?_
    refine g_iconst (pc := 17) (v := 0) d_MO_daysUntilClosed_17 (by decide) ?_
    refine g_nameI (fun x_1 hx_1 => ?_)
    refine g_istore_n (pc := 18) (lv' := [(2, .int x_1), (0, .ref m), (1, .int (nI i))]) d_MO_daysUntilClosed_18 rfl (by decide) rfl ?_
    subst hx_1
    exact lp_MO_daysUntilClosed (c := u1 c 17 0) hM nd n6 s8 hi hU 200 0 B hG (by omega)
  · exact (c_5 (by decide)).elim
theorem lp_MO_coinError {E : En} {h : Hp} {m st nw sc : Nat} {c g : Nat → Int32} {B : Bu} {R : List (Nat × (Nat → Int32))} {ni U : Nat} {a : Int32} (hM : MoOk h m st) (nd : (m :: st :: R.map Prod.fst).Nodup) (hG : Gd B nw sc ni U) : ∀ (d k : Nat), k ≤ sc → sc - k < d → G E m_MO_coinError 23 [(2, .int (nI k)), (1, .int (Q_coin a B.2.2 k)), (0, .ref m)] [] (wL h ((m, c) :: (st, enc nw sc B g) :: R)) 0 0 (fun v1 h1 => v1 = some (.int (Q_coin a B.2.2 sc)) ∧ h1 = wL h ((m, c) :: (st, enc nw sc B g) :: R)) noX := by
  obtain ⟨k_m, r_m_0, k_st, l_st⟩ := id hM
  intro d
  induction d with
  | zero => intros; omega
  | succ d ih =>
    intro k hk hd
    obtain ⟨hw, n6, hs, s8, h0, hni, n3, ⟨sd, hsd, hsx⟩, hop⟩ := id hG.1
    refine g_iload_n (pc := 23) d_MO_coinError_23 rfl 0 rfl ?_
    refine g_aload_n (pc := 24) d_MO_coinError_24 rfl 2 rfl ?_
    refine g_getR (pc := 25) (ci := 7) (f := 0) (b := st) rfl r_m_0 d_MO_coinError_25 fl_MO_7 (by decide) k_m ?_
    refine g_bipush (pc := 28) (v := 8) d_MO_coinError_28 (by decide) ?_
    refine g_mI (pc := 30) (k := 8) d_MO_coinError_30 k_st l_st (by decide) nd ?_
    refine g_icmp_ge (pc := 31) (tgt := 57) d_MO_coinError_31 (by decide) (fun c_31 => ?_) (fun c_31 => ?_)
    · skip
      have e9 : k = sc := by rw [hs] at c_31; have := (nI_leI (by omega) (by omega)).mp c_31; omega
      refine g_iload_n (pc := 57) d_MO_coinError_57 rfl 1 rfl ?_
      refine g_iret (pc := 58) d_MO_coinError_58 rfl ?_
      rw [e9]
      exact ⟨rfl, rfl⟩
    · skip
      have e9 : k < sc := by rw [hs] at c_31; exact Nat.lt_of_not_le (fun z => c_31 ((nI_leI (by omega) (by omega)).mpr z))
      refine g_iload_n (pc := 34) d_MO_coinError_34 rfl 1 rfl ?_
      refine g_aload_n (pc := 35) d_MO_coinError_35 rfl 2 rfl ?_
      refine g_iload_n (pc := 36) d_MO_coinError_36 rfl 0 rfl ?_
      refine g_bipush (pc := 37) (v := 14) d_MO_coinError_37 (by decide) ?_
      refine g_cV1 (pc := 39) (ci := 7) (As := [.int _, .int _]) d_MO_coinError_39 rfl mv_MO_of st_MO_coinError_69 rfl rfl (by decide) rfl rfl (Nat.le_of_ble_eq_true rfl) k_m (cm_MO_of (k := 14) hM nd n6 s8 (by first | assumption | omega | decide) (by decide)) ?_
      refine g_aload_n (pc := 42) d_MO_coinError_42 rfl 2 rfl ?_
      refine g_iload_n (pc := 43) d_MO_coinError_43 rfl 0 rfl ?_
      refine g_iconst (pc := 44) (v := 0) d_MO_coinError_44 (by decide) ?_
      refine g_cV1 (pc := 45) (ci := 7) (As := [.int _, .int _]) d_MO_coinError_45 rfl mv_MO_of st_MO_coinError_69 rfl rfl (by decide) rfl rfl (Nat.le_of_ble_eq_true rfl) k_m (cm_MO_of (k := 0) hM nd n6 s8 (by first | assumption | omega | decide) (by decide)) ?_
      refine g_isub (pc := 48) d_MO_coinError_48 ?_
      refine g_iadd (pc := 49) d_MO_coinError_49 ?_
      refine g_top (y := Q_coin a B.2.2 (k + 1)) rfl ?_
      refine g_istore_n (pc := 50) (lv' := [(1, .int (Q_coin a B.2.2 (k + 1))), (2, .int (nI k)), (0, .ref m)]) d_MO_coinError_50 rfl (by decide) rfl ?_
      obtain ⟨x_1, hx_1⟩ : ∃ y : Int32, y = (nI k) + 1 := ⟨_, rfl⟩
      refine g_iinc (pc := 51) (w := 1) (v := x_1) (lv' := [(2, .int x_1), (1, .int (Q_coin a B.2.2 (k + 1))), (0, .ref m)]) d_MO_coinError_51 rfl (by rw [hx_1]; rfl) (by decide) rfl ?_
      refine g_goto (pc := 54) (tgt := 23) d_MO_coinError_54 (by decide) ?_
      have e8 : x_1 = nI (k + 1) := by rw [hx_1]; exact nI_1 _
      clear hx_1
      subst e8
      refine g_perm [0, 1, 2] rfl ?_
      exact ih (k + 1) (by omega) (by omega)
set_option maxRecDepth 20000 in
theorem cm_MO_coinError {E : En} {h : Hp} {m st nw sc : Nat} {c g : Nat → Int32} {B : Bu} {R : List (Nat × (Nat → Int32))} {ni U : Nat} (hM : MoOk h m st) (nd : (m :: st :: R.map Prod.fst).Nodup) (hG : Gd B nw sc ni U) : CR E m_MO_coinError [.ref m] (wL h ((m, c) :: (st, enc nw sc B g) :: R)) (some (.int (Q_coin (g 12 - B.1 10) B.2.2 sc))) (wL h ((m, (u1 c 17 0)) :: (st, enc nw sc B g) :: R)) := by
  refine ct_of rfl (by decide +kernel) (Nat.le_of_ble_eq_true rfl) ?_
  show G E m_MO_coinError 0 [(0, .ref m)] [] (wL h ((m, c) :: (st, enc nw sc B g) :: R)) 0 0 _ noX
  obtain ⟨k_m, r_m_0, k_st, l_st⟩ := id hM
  obtain ⟨hw, n6, hs, s8, h0, hni, n3, ⟨sd, hsd, hsx⟩, hop⟩ := id hG.1
  refine g_aload_n (pc := 0) d_MO_coinError_0 rfl 0 rfl ?_
  refine g_iconst (pc := 1) (v := 0) d_MO_coinError_1 (by decide) ?_
  refine g_lpI0 (pc := 2) (ci := 7) (f := 17) rfl d_MO_coinError_2 fl_MO_52 (fun q hq => by cases hq; exact rfl) rfl rfl (by decide) k_m nd ?_
  refine g_aload_n (pc := 5) d_MO_coinError_5 rfl 0 rfl ?_
  refine g_getR (pc := 6) (ci := 7) (f := 0) (b := st) rfl r_m_0 d_MO_coinError_6 fl_MO_7 (by decide) k_m ?_
  refine g_bipush (pc := 9) (v := 12) d_MO_coinError_9 (by decide) ?_
  refine g_lia1 (pc := 11) (j := 12) d_MO_coinError_11 k_st l_st (by omega) (by decide) nd ?_
  refine g_top enc_12 ?_
  refine g_aload_n (pc := 12) d_MO_coinError_12 rfl 0 rfl ?_
  refine g_getR (pc := 13) (ci := 7) (f := 0) (b := st) rfl r_m_0 d_MO_coinError_13 fl_MO_7 (by decide) k_m ?_
  refine g_bipush (pc := 16) (v := 10) d_MO_coinError_16 (by decide) ?_
  refine g_mI (pc := 18) (k := 10) d_MO_coinError_18 k_st l_st (by decide) nd ?_
  refine g_isub (pc := 19) d_MO_coinError_19 ?_
  refine g_istore_n (pc := 20) (lv' := [(1, .int (g 12 - B.1 10)), (0, .ref m)]) d_MO_coinError_20 rfl (by decide) rfl ?_
  refine g_iconst (pc := 21) (v := 0) d_MO_coinError_21 (by decide) ?_
  refine g_nameI (fun x_1 hx_1 => ?_)
  refine g_istore_n (pc := 22) (lv' := [(2, .int x_1), (1, .int (g 12 - B.1 10)), (0, .ref m)]) d_MO_coinError_22 rfl (by decide) rfl ?_
  subst hx_1
  exact lp_MO_coinError (a := g 12 - B.1 10) hM nd hG (sc + 1) 0 (Nat.zero_le _) (by omega)
theorem lp_MO_meanExcess {E : En} {h : Hp} {m st nw sc : Nat} {c g : Nat → Int32} {B : Bu} {R : List (Nat × (Nat → Int32))} {ni U : Nat} (hM : MoOk h m st) (nd : (m :: st :: R.map Prod.fst).Nodup) (hG : Gd B nw sc ni U) : ∀ (d k : Nat), k ≤ sc → sc - k < d → G E m_MO_meanExcess 9 [(2, .int (nI k)), (1, .int (Q_sum B.1 B.2.1 B.2.2 nw k)), (0, .ref m)] [] (wL h ((m, c) :: (st, enc nw sc B g) :: R)) 0 0 (fun v1 h1 => v1 = some (.double (FP.ddiv (FP.i2d (Q_sum B.1 B.2.1 B.2.2 nw sc)) (FP.i2d (nI sc)))) ∧ h1 = wL h ((m, c) :: (st, enc nw sc B g) :: R)) noX := by
  obtain ⟨k_m, r_m_0, k_st, l_st⟩ := id hM
  intro d
  induction d with
  | zero => intros; omega
  | succ d ih =>
    intro k hk hd
    obtain ⟨hw, n6, hs, s8, h0, hni, n3, ⟨sd, hsd, hsx⟩, hop⟩ := id hG.1
    refine g_iload_n (pc := 9) d_MO_meanExcess_9 rfl 0 rfl ?_
    refine g_aload_n (pc := 10) d_MO_meanExcess_10 rfl 2 rfl ?_
    refine g_getR (pc := 11) (ci := 7) (f := 0) (b := st) rfl r_m_0 d_MO_meanExcess_11 fl_MO_7 (by decide) k_m ?_
    refine g_bipush (pc := 14) (v := 8) d_MO_meanExcess_14 (by decide) ?_
    refine g_mI (pc := 16) (k := 8) d_MO_meanExcess_16 k_st l_st (by decide) nd ?_
    refine g_icmp_ge (pc := 17) (tgt := 34) d_MO_meanExcess_17 (by decide) (fun c_17 => ?_) (fun c_17 => ?_)
    · skip
      have e9 : k = sc := by rw [hs] at c_17; have := (nI_leI (by omega) (by omega)).mp c_17; omega
      refine g_iload_n (pc := 34) d_MO_meanExcess_34 rfl 1 rfl ?_
      refine g_i2d (pc := 35) d_MO_meanExcess_35 ?_
      refine g_aload_n (pc := 36) d_MO_meanExcess_36 rfl 2 rfl ?_
      refine g_getR (pc := 37) (ci := 7) (f := 0) (b := st) rfl r_m_0 d_MO_meanExcess_37 fl_MO_7 (by decide) k_m ?_
      refine g_bipush (pc := 40) (v := 8) d_MO_meanExcess_40 (by decide) ?_
      refine g_mI (pc := 42) (k := 8) d_MO_meanExcess_42 k_st l_st (by decide) nd ?_
      refine g_i2d (pc := 43) d_MO_meanExcess_43 ?_
      refine g_ddiv (pc := 44) d_MO_meanExcess_44 (by rw [hs]; exact fd_n64 _ (nI_ne0 h0 (by omega))) ?_
      refine g_dret (pc := 45) d_MO_meanExcess_45 rfl ?_
      rw [e9, hs]
      exact ⟨rfl, rfl⟩
    · skip
      have e9 : k < sc := by rw [hs] at c_17; exact Nat.lt_of_not_le (fun z => c_17 ((nI_leI (by omega) (by omega)).mpr z))
      refine g_iload_n (pc := 20) d_MO_meanExcess_20 rfl 1 rfl ?_
      refine g_aload_n (pc := 21) d_MO_meanExcess_21 rfl 2 rfl ?_
      refine g_iload_n (pc := 22) d_MO_meanExcess_22 rfl 0 rfl ?_
      refine g_cV1 (pc := 23) (ci := 7) (As := [.int _]) d_MO_meanExcess_23 rfl mv_MO_totalOf st_MO_meanExcess_83 rfl rfl (by decide) rfl rfl (Nat.le_of_ble_eq_true rfl) k_m (cm_MO_totalOf hM nd n6 s8 (by first | assumption | omega | decide) hw) ?_
      refine g_iadd (pc := 26) d_MO_meanExcess_26 ?_
      refine g_top (y := Q_sum B.1 B.2.1 B.2.2 nw (k + 1)) rfl ?_
      refine g_istore_n (pc := 27) (lv' := [(1, .int (Q_sum B.1 B.2.1 B.2.2 nw (k + 1))), (2, .int (nI k)), (0, .ref m)]) d_MO_meanExcess_27 rfl (by decide) rfl ?_
      obtain ⟨x_1, hx_1⟩ : ∃ y : Int32, y = (nI k) + 1 := ⟨_, rfl⟩
      refine g_iinc (pc := 28) (w := 1) (v := x_1) (lv' := [(2, .int x_1), (1, .int (Q_sum B.1 B.2.1 B.2.2 nw (k + 1))), (0, .ref m)]) d_MO_meanExcess_28 rfl (by rw [hx_1]; rfl) (by decide) rfl ?_
      refine g_goto (pc := 31) (tgt := 9) d_MO_meanExcess_31 (by decide) ?_
      have e8 : x_1 = nI (k + 1) := by rw [hx_1]; exact nI_1 _
      clear hx_1
      subst e8
      refine g_perm [0, 1, 2] rfl ?_
      exact ih (k + 1) (by omega) (by omega)
set_option maxRecDepth 20000 in
theorem cm_MO_meanExcess {E : En} {h : Hp} {m st nw sc : Nat} {c g : Nat → Int32} {B : Bu} {R : List (Nat × (Nat → Int32))} {ni U : Nat} (hM : MoOk h m st) (nd : (m :: st :: R.map Prod.fst).Nodup) (hG : Gd B nw sc ni U) : CR E m_MO_meanExcess [.ref m] (wL h ((m, c) :: (st, enc nw sc B g) :: R)) (some (.double (FP.ddiv (FP.i2d (Q_sum B.1 B.2.1 B.2.2 nw sc)) (FP.i2d (nI sc))))) (wL h ((m, (u1 c 17 0)) :: (st, enc nw sc B g) :: R)) := by
  refine ct_of rfl (by decide +kernel) (Nat.le_of_ble_eq_true rfl) ?_
  show G E m_MO_meanExcess 0 [(0, .ref m)] [] (wL h ((m, c) :: (st, enc nw sc B g) :: R)) 0 0 _ noX
  obtain ⟨k_m, r_m_0, k_st, l_st⟩ := id hM
  obtain ⟨hw, n6, hs, s8, h0, hni, n3, ⟨sd, hsd, hsx⟩, hop⟩ := id hG.1
  refine g_aload_n (pc := 0) d_MO_meanExcess_0 rfl 0 rfl ?_
  refine g_iconst (pc := 1) (v := 0) d_MO_meanExcess_1 (by decide) ?_
  refine g_lpI0 (pc := 2) (ci := 7) (f := 17) rfl d_MO_meanExcess_2 fl_MO_52 (fun q hq => by cases hq; exact rfl) rfl rfl (by decide) k_m nd ?_
  refine g_iconst (pc := 5) (v := 0) d_MO_meanExcess_5 (by decide) ?_
  refine g_nameI (fun x_1 hx_1 => ?_)
  refine g_istore_n (pc := 6) (lv' := [(1, .int x_1), (0, .ref m)]) d_MO_meanExcess_6 rfl (by decide) rfl ?_
  refine g_iconst (pc := 7) (v := 0) d_MO_meanExcess_7 (by decide) ?_
  refine g_nameI (fun x_2 hx_2 => ?_)
  refine g_istore_n (pc := 8) (lv' := [(2, .int x_2), (1, .int x_1), (0, .ref m)]) d_MO_meanExcess_8 rfl (by decide) rfl ?_
  subst hx_1
  subst hx_2
  exact lp_MO_meanExcess hM nd hG (sc + 1) 0 (Nat.zero_le _) (by omega)
theorem lp_MO_trueShare {E : En} {h : Hp} {m st nw sc : Nat} {c g : Nat → Int32} {B : Bu} {R : List (Nat × (Nat → Int32))} {ni U : Nat} (hM : MoOk h m st) (nd : (m :: st :: R.map Prod.fst).Nodup) (hG : Gd B nw sc ni U) : ∀ (d k : Nat), k ≤ sc → sc - k < d → G E m_MO_trueShare 9 [(2, .int (nI k)), (1, .int (nI (Q_true B.1 B.2.1 B.2.2 nw k))), (0, .ref m)] [] (wL h ((m, c) :: (st, enc nw sc B g) :: R)) 0 0 (fun v1 h1 => v1 = some (.float (FP.fdiv (FP.i2f (nI (Q_true B.1 B.2.1 B.2.2 nw sc))) (FP.i2f (nI sc)))) ∧ h1 = wL h ((m, c) :: (st, enc nw sc B g) :: R)) noX := by
  obtain ⟨k_m, r_m_0, k_st, l_st⟩ := id hM
  intro d
  induction d with
  | zero => intros; omega
  | succ d ih =>
    intro k hk hd
    obtain ⟨hw, n6, hs, s8, h0, hni, n3, ⟨sd, hsd, hsx⟩, hop⟩ := id hG.1
    refine g_iload_n (pc := 9) d_MO_trueShare_9 rfl 0 rfl ?_
    refine g_aload_n (pc := 10) d_MO_trueShare_10 rfl 2 rfl ?_
    refine g_getR (pc := 11) (ci := 7) (f := 0) (b := st) rfl r_m_0 d_MO_trueShare_11 fl_MO_7 (by decide) k_m ?_
    refine g_bipush (pc := 14) (v := 8) d_MO_trueShare_14 (by decide) ?_
    refine g_mI (pc := 16) (k := 8) d_MO_trueShare_16 k_st l_st (by decide) nd ?_
    refine g_icmp_ge (pc := 17) (tgt := 37) d_MO_trueShare_17 (by decide) (fun c_17 => ?_) (fun c_17 => ?_)
    · skip
      have e9 : k = sc := by rw [hs] at c_17; have := (nI_leI (by omega) (by omega)).mp c_17; omega
      refine g_iload_n (pc := 37) d_MO_trueShare_37 rfl 1 rfl ?_
      refine g_i2f (pc := 38) d_MO_trueShare_38 ?_
      refine g_aload_n (pc := 39) d_MO_trueShare_39 rfl 2 rfl ?_
      refine g_getR (pc := 40) (ci := 7) (f := 0) (b := st) rfl r_m_0 d_MO_trueShare_40 fl_MO_7 (by decide) k_m ?_
      refine g_bipush (pc := 43) (v := 8) d_MO_trueShare_43 (by decide) ?_
      refine g_mI (pc := 45) (k := 8) d_MO_trueShare_45 k_st l_st (by decide) nd ?_
      refine g_i2f (pc := 46) d_MO_trueShare_46 ?_
      refine g_fdiv (pc := 47) d_MO_trueShare_47 (by rw [hs]; exact fd_n32 _ (nI_ne0 h0 (by omega))) ?_
      refine g_fret (pc := 48) d_MO_trueShare_48 rfl ?_
      rw [e9, hs]
      exact ⟨rfl, rfl⟩
    · skip
      have e9 : k < sc := by rw [hs] at c_17; exact Nat.lt_of_not_le (fun z => c_17 ((nI_leI (by omega) (by omega)).mpr z))
      refine g_aload_n (pc := 20) d_MO_trueShare_20 rfl 2 rfl ?_
      refine g_iload_n (pc := 21) d_MO_trueShare_21 rfl 0 rfl ?_
      refine g_cV1 (pc := 22) (ci := 7) (As := [.int _]) d_MO_trueShare_22 rfl mv_MO_isRight st_MO_trueShare_99 rfl rfl (by decide) rfl rfl (Nat.le_of_ble_eq_true rfl) k_m (cm_MO_isRight hM nd n6 s8 (by first | assumption | omega | decide) hw) ?_
      refine g_if_eq (pc := 25) (tgt := 31) d_MO_trueShare_25 (by decide) (fun c_25 => ?_) (fun c_25 => ?_)
      · skip
        obtain ⟨x_1, hx_1⟩ : ∃ y : Int32, y = (nI k) + 1 := ⟨_, rfl⟩
        refine g_iinc (pc := 31) (w := 0) (v := x_1) (lv' := [(2, .int x_1), (1, .int (nI (Q_true B.1 B.2.1 B.2.2 nw k))), (0, .ref m)]) d_MO_trueShare_31 rfl (by rw [hx_1]; rfl) (by decide) rfl ?_
        refine g_goto (pc := 34) (tgt := 9) d_MO_trueShare_34 (by decide) ?_
        have e8 : x_1 = nI (k + 1) := by rw [hx_1]; exact nI_1 _
        clear hx_1
        subst e8
        rw [show Q_true B.1 B.2.1 B.2.2 nw k = Q_true B.1 B.2.1 B.2.2 nw (k + 1) from by rw [Q_true, if_neg (of_decide_eq_false (bI_0.mp c_25))]]
        refine g_perm [0, 1, 2] rfl ?_
        exact ih (k + 1) (by omega) (by omega)
      · skip
        obtain ⟨x_2, hx_2⟩ : ∃ y : Int32, y = (nI (Q_true B.1 B.2.1 B.2.2 nw k)) + 1 := ⟨_, rfl⟩
        refine g_iinc (pc := 28) (w := 1) (v := x_2) (lv' := [(1, .int x_2), (2, .int (nI k)), (0, .ref m)]) d_MO_trueShare_28 rfl (by rw [hx_2]; rfl) (by decide) rfl ?_
        obtain ⟨x_3, hx_3⟩ : ∃ y : Int32, y = (nI k) + 1 := ⟨_, rfl⟩
        refine g_iinc (pc := 31) (w := 1) (v := x_3) (lv' := [(2, .int x_3), (1, .int x_2), (0, .ref m)]) d_MO_trueShare_31 rfl (by rw [hx_3]; rfl) (by decide) rfl ?_
        refine g_goto (pc := 34) (tgt := 9) d_MO_trueShare_34 (by decide) ?_
        have e8 : x_3 = nI (k + 1) := by rw [hx_3]; exact nI_1 _
        clear hx_3
        subst e8
        have e7 : x_2 = nI (Q_true B.1 B.2.1 B.2.2 nw (k + 1)) := by rw [hx_2, Q_true, if_pos (of_decide_eq_true (bI_n0 c_25))]; exact nI_1 _
        clear hx_2
        subst e7
        refine g_perm [0, 1, 2] rfl ?_
        exact ih (k + 1) (by omega) (by omega)
set_option maxRecDepth 20000 in
theorem cm_MO_trueShare {E : En} {h : Hp} {m st nw sc : Nat} {c g : Nat → Int32} {B : Bu} {R : List (Nat × (Nat → Int32))} {ni U : Nat} (hM : MoOk h m st) (nd : (m :: st :: R.map Prod.fst).Nodup) (hG : Gd B nw sc ni U) : CR E m_MO_trueShare [.ref m] (wL h ((m, c) :: (st, enc nw sc B g) :: R)) (some (.float (FP.fdiv (FP.i2f (nI (Q_true B.1 B.2.1 B.2.2 nw sc))) (FP.i2f (nI sc))))) (wL h ((m, (u1 c 17 0)) :: (st, enc nw sc B g) :: R)) := by
  refine ct_of rfl (by decide +kernel) (Nat.le_of_ble_eq_true rfl) ?_
  show G E m_MO_trueShare 0 [(0, .ref m)] [] (wL h ((m, c) :: (st, enc nw sc B g) :: R)) 0 0 _ noX
  obtain ⟨k_m, r_m_0, k_st, l_st⟩ := id hM
  obtain ⟨hw, n6, hs, s8, h0, hni, n3, ⟨sd, hsd, hsx⟩, hop⟩ := id hG.1
  refine g_aload_n (pc := 0) d_MO_trueShare_0 rfl 0 rfl ?_
  refine g_iconst (pc := 1) (v := 0) d_MO_trueShare_1 (by decide) ?_
  refine g_lpI0 (pc := 2) (ci := 7) (f := 17) rfl d_MO_trueShare_2 fl_MO_52 (fun q hq => by cases hq; exact rfl) rfl rfl (by decide) k_m nd ?_
  refine g_iconst (pc := 5) (v := 0) d_MO_trueShare_5 (by decide) ?_
  refine g_nameI (fun x_1 hx_1 => ?_)
  refine g_istore_n (pc := 6) (lv' := [(1, .int x_1), (0, .ref m)]) d_MO_trueShare_6 rfl (by decide) rfl ?_
  refine g_iconst (pc := 7) (v := 0) d_MO_trueShare_7 (by decide) ?_
  refine g_nameI (fun x_2 hx_2 => ?_)
  refine g_istore_n (pc := 8) (lv' := [(2, .int x_2), (1, .int x_1), (0, .ref m)]) d_MO_trueShare_8 rfl (by decide) rfl ?_
  subst hx_1
  subst hx_2
  exact lp_MO_trueShare hM nd hG (sc + 1) 0 (Nat.zero_le _) (by omega)
set_option maxRecDepth 20000 in
theorem cm_MO_emit {E : En} {h : Hp} {m st mo : Nat} {c G0 O : Nat → Int32} {R : List (Nat × (Nat → Int32))} {l : List Int32} {b : Nat} (hM : MoOk h m st) (hO : MuOk h m mo) (nd : (m :: st :: mo :: R.map Prod.fst).Nodup) (hl : l.length < 200) (hb : b < 128) : CR E m_MO_emit [.ref m, .int (nI b)] (wL h ((m, (u1 c 16 (nI l.length))) :: (st, G0) :: (mo, (Wr O l)) :: R)) (none) (wL h ((m, (u1 c 16 (nI (l ++ [nI b]).length))) :: (st, G0) :: (mo, (Wr O (l ++ [nI b]))) :: R)) := by
  refine ct_of rfl (by decide +kernel) (Nat.le_of_ble_eq_true rfl) ?_
  show G E m_MO_emit 0 [(0, .ref m), (1, .int (nI b))] [] (wL h ((m, (u1 c 16 (nI l.length))) :: (st, G0) :: (mo, (Wr O l)) :: R)) 0 0 _ noX
  obtain ⟨k_m, r_m_0, k_st, l_st⟩ := id hM
  obtain ⟨r_m_15, k_mo, l_mo⟩ := id hO
  refine g_aload_n (pc := 0) d_MO_emit_0 rfl 0 rfl ?_
  refine g_getR (pc := 1) (ci := 7) (f := 15) (b := mo) rfl r_m_15 d_MO_emit_1 fl_MO_31 (by decide) k_m ?_
  refine g_aload_n (pc := 4) d_MO_emit_4 rfl 0 rfl ?_
  refine g_lgI0 (pc := 5) (ci := 7) (f := 16) rfl d_MO_emit_5 fl_MO_303 (by decide) k_m nd ?_
  refine g_top (y := nI l.length) rfl ?_
  refine g_iload_n (pc := 8) d_MO_emit_8 rfl 1 rfl ?_
  refine g_i2b (pc := 9) d_MO_emit_9 ?_
  refine g_lbE2 (pc := 10) (j := l.length) (hg := (congrArg (u1 (Wr O l) l.length) (nar_small hb)).trans (Wr_app O l (nI b))) d_MO_emit_10 k_mo l_mo (by first | assumption | omega | decide) (by decide) nd ?_
  refine g_aload_n (pc := 11) d_MO_emit_11 rfl 0 rfl ?_
  refine g_dup (pc := 12) d_MO_emit_12 rfl ?_
  refine g_lgI0 (pc := 13) (ci := 7) (f := 16) rfl d_MO_emit_13 fl_MO_303 (by decide) k_m nd ?_
  refine g_iconst (pc := 16) (v := 1) d_MO_emit_16 (by decide) ?_
  refine g_iadd (pc := 17) d_MO_emit_17 ?_
  refine g_top (y := nI (l ++ [nI b]).length) (by rw [List.length_append]; exact nI_1 _) ?_
  refine g_lpI0 (pc := 18) (ci := 7) (f := 16) rfl d_MO_emit_18 fl_MO_303 (fun q hq => by cases hq; exact rfl) rfl rfl (by decide) k_m nd ?_
  refine g_vret (pc := 21) d_MO_emit_21 rfl ?_
  rw [u1_u1]
  exact ⟨rfl, rfl⟩
theorem lp_MO_emitN2 {E : En} {h : Hp} {m st mo : Nat} {c G0 O : Nat → Int32} {R : List (Nat × (Nat → Int32))} {w : Nat} (hM : MoOk h m st) (hO : MuOk h m mo) (nd : (m :: st :: mo :: R.map Prod.fst).Nodup) (hw : w < 2147483648) : ∀ (k : Nat) (l : List Int32), k ≤ 9 → l.length + k < 199 → G E m_MO_emitNumber 18 [(2, .int (nI (10 ^ k))), (0, .ref m), (1, .int (nI w))] [] (wL h ((m, (u1 c 16 (nI l.length))) :: (st, G0) :: (mo, (Wr O l)) :: R)) 0 0 (fun v1 h1 => v1 = none ∧ h1 = wL h ((m, (u1 c 16 (nI (l ++ dgF w (k + 1)).length))) :: (st, G0) :: (mo, (Wr O (l ++ dgF w (k + 1)))) :: R)) noX := by
  obtain ⟨k_m, r_m_0, k_st, l_st⟩ := id hM
  intro k
  induction k with
  | zero =>
    intro l hk hl
    refine g_iload_n (pc := 18) d_MO_emitNumber_18 rfl 0 rfl ?_
    refine g_if_le (pc := 19) (tgt := 43) d_MO_emitNumber_19 (by decide) (fun c_19 => ?_) (fun c_19 => ?_)
    · exact absurd c_19 (by first | decide | exact nI_nle p1.1 (by omega))
    · skip
      refine g_aload_n (pc := 22) d_MO_emitNumber_22 rfl 1 rfl ?_
      refine g_bipush (pc := 23) (v := 48) d_MO_emitNumber_23 (by decide) ?_
      refine g_iload_n (pc := 25) d_MO_emitNumber_25 rfl 2 rfl ?_
      refine g_iload_n (pc := 26) d_MO_emitNumber_26 rfl 0 rfl ?_
      refine g_idiv (pc := 27) d_MO_emitNumber_27 (by first | decide | exact nI_ne0 p1.1 (by omega)) ?_
      refine g_bipush (pc := 28) (v := 10) d_MO_emitNumber_28 (by decide) ?_
      refine g_irem (pc := 30) d_MO_emitNumber_30 (by decide) ?_
      refine g_iadd (pc := 31) d_MO_emitNumber_31 ?_
      refine g_top (y := nI (48 + w / 10 ^ 0 % 10)) (by
        rw [nI_div (b := 10 ^ 0) (by omega) (by first | omega | decide) (by first | omega | decide)]
        have e := nI_rem (a := w / 10 ^ 0) (b := 10) (by have := Nat.div_le_self w (10 ^ 0); omega) (by omega) (by omega)
        rw [show nI (w / 10 ^ 0) - nI (w / 10 ^ 0) / 10 * 10 = nI (w / 10 ^ 0 % 10) from e]
        exact nI_add 48 _) ?_
      refine g_cV0 (pc := 32) (ci := 7) (As := [.int _]) d_MO_emitNumber_32 rfl mv_MO_emit st_MO_emitNumber_306 rfl rfl (by decide) rfl rfl (Nat.le_of_ble_eq_true rfl) k_m (cm_MO_emit (l := l) (b := 48 + w / 10 ^ 0 % 10) hM hO nd (by omega) (by omega)) ?_
      refine g_iload_n (pc := 35) d_MO_emitNumber_35 rfl 0 rfl ?_
      refine g_bipush (pc := 36) (v := 10) d_MO_emitNumber_36 (by decide) ?_
      refine g_idiv (pc := 38) d_MO_emitNumber_38 (by decide) ?_
      refine g_top (y := 0) (by decide) ?_
      refine g_istore_n (pc := 39) (lv' := [(2, .int 0), (0, .ref m), (1, .int (nI w))]) d_MO_emitNumber_39 rfl (by decide) rfl ?_
      refine g_goto (pc := 40) (tgt := 18) d_MO_emitNumber_40 (by decide) ?_
      refine g_iload_n (pc := 18) d_MO_emitNumber_18 rfl 0 rfl ?_
      refine g_if_le (pc := 19) (tgt := 43) d_MO_emitNumber_19 (by decide) (fun _ => ?_) (fun z => absurd (by decide) z)
      refine g_vret (pc := 43) d_MO_emitNumber_43 rfl ?_
      exact ⟨rfl, rfl⟩
  | succ k ih =>
    intro l hk hl
    have p1 := p10 hk
    have p2 := p10 (show k ≤ 9 by omega)
    refine g_iload_n (pc := 18) d_MO_emitNumber_18 rfl 0 rfl ?_
    refine g_if_le (pc := 19) (tgt := 43) d_MO_emitNumber_19 (by decide) (fun c_19 => ?_) (fun c_19 => ?_)
    · exact absurd c_19 (by first | decide | exact nI_nle p1.1 (by omega))
    · skip
      refine g_aload_n (pc := 22) d_MO_emitNumber_22 rfl 1 rfl ?_
      refine g_bipush (pc := 23) (v := 48) d_MO_emitNumber_23 (by decide) ?_
      refine g_iload_n (pc := 25) d_MO_emitNumber_25 rfl 2 rfl ?_
      refine g_iload_n (pc := 26) d_MO_emitNumber_26 rfl 0 rfl ?_
      refine g_idiv (pc := 27) d_MO_emitNumber_27 (by first | decide | exact nI_ne0 p1.1 (by omega)) ?_
      refine g_bipush (pc := 28) (v := 10) d_MO_emitNumber_28 (by decide) ?_
      refine g_irem (pc := 30) d_MO_emitNumber_30 (by decide) ?_
      refine g_iadd (pc := 31) d_MO_emitNumber_31 ?_
      refine g_top (y := nI (48 + w / 10 ^ (k + 1) % 10)) (by
        rw [nI_div (b := 10 ^ (k + 1)) (by omega) (by first | omega | decide) (by first | omega | decide)]
        have e := nI_rem (a := w / 10 ^ (k + 1)) (b := 10) (by have := Nat.div_le_self w (10 ^ (k + 1)); omega) (by omega) (by omega)
        rw [show nI (w / 10 ^ (k + 1)) - nI (w / 10 ^ (k + 1)) / 10 * 10 = nI (w / 10 ^ (k + 1) % 10) from e]
        exact nI_add 48 _) ?_
      refine g_cV0 (pc := 32) (ci := 7) (As := [.int _]) d_MO_emitNumber_32 rfl mv_MO_emit st_MO_emitNumber_306 rfl rfl (by decide) rfl rfl (Nat.le_of_ble_eq_true rfl) k_m (cm_MO_emit (l := l) (b := 48 + w / 10 ^ (k + 1) % 10) hM hO nd (by omega) (by omega)) ?_
      refine g_iload_n (pc := 35) d_MO_emitNumber_35 rfl 0 rfl ?_
      refine g_bipush (pc := 36) (v := 10) d_MO_emitNumber_36 (by decide) ?_
      refine g_idiv (pc := 38) d_MO_emitNumber_38 (by decide) ?_
      refine g_top (y := nI (10 ^ k)) (by have e := nI_div (a := 10 ^ (k + 1)) (b := 10) (by omega) (by omega) (by omega); rw [Nat.pow_succ, Nat.mul_div_cancel _ (by omega), ← Nat.pow_succ] at e; exact e) ?_
      refine g_istore_n (pc := 39) (lv' := [(2, .int (nI (10 ^ k))), (0, .ref m), (1, .int (nI w))]) d_MO_emitNumber_39 rfl (by decide) rfl ?_
      refine g_goto (pc := 40) (tgt := 18) d_MO_emitNumber_40 (by decide) ?_
      have ih9 := ih (l ++ [nI (48 + w / 10 ^ (k + 1) % 10)]) (by omega) (by rw [List.length_append]; simp; omega)
      have e2 : dgF w (k + 1 + 1) = nI (48 + w / 10 ^ (k + 1) % 10) :: dgF w (k + 1) := rfl
      rw [List.append_assoc, List.singleton_append, ← e2] at ih9
      exact ih9
theorem lp_MO_emitN1 {E : En} {h : Hp} {m st mo : Nat} {c G0 O : Nat → Int32} {R : List (Nat × (Nat → Int32))} {w : Nat} {l : List Int32} (hM : MoOk h m st) (hO : MuOk h m mo) (nd : (m :: st :: mo :: R.map Prod.fst).Nodup) (hw : w < 2147483648) (hl : l.length < 100) : ∀ (d k : Nat), k ≤ 9 → (k = 0 ∨ 10 ^ k ≤ w) → 9 - k < d → G E m_MO_emitNumber 2 [(2, .int (nI (10 ^ k))), (0, .ref m), (1, .int (nI w))] [] (wL h ((m, (u1 c 16 (nI l.length))) :: (st, G0) :: (mo, (Wr O l)) :: R)) 0 0 (fun v1 h1 => v1 = none ∧ h1 = wL h ((m, (u1 c 16 (nI (l ++ dgF w (dgL w)).length))) :: (st, G0) :: (mo, (Wr O (l ++ dgF w (dgL w)))) :: R)) noX := by
  obtain ⟨k_m, r_m_0, k_st, l_st⟩ := id hM
  intro d
  induction d with
  | zero => intros; omega
  | succ d ih =>
    intro k hk h1 hd
    have p1 := p10 hk
    have q1 := Nat.div_le_self w (10 ^ k)
    refine g_iload_n (pc := 2) d_MO_emitNumber_2 rfl 2 rfl ?_
    refine g_iload_n (pc := 3) d_MO_emitNumber_3 rfl 0 rfl ?_
    refine g_idiv (pc := 4) d_MO_emitNumber_4 (by exact nI_ne0 p1.1 (by omega)) ?_
    refine g_bipush (pc := 5) (v := 10) d_MO_emitNumber_5 (by decide) ?_
    rw [nI_div (b := 10 ^ k) (by omega) (by omega) (by omega)]
    refine g_icmp_lt (pc := 7) (tgt := 18) d_MO_emitNumber_7 (by decide) (fun c_7 => ?_) (fun c_7 => ?_)
    · skip
      have e7 : w / 10 ^ k < 10 := (nI_ltI (b := 10) (by omega) (by omega)).mp c_7
      rw [dgL_of hk h1 e7 hw]
      exact lp_MO_emitN2 hM hO nd hw k l hk (by omega)
    · skip
      have e7 : 10 ≤ w / 10 ^ k := Nat.le_of_not_lt (fun z => c_7 ((nI_ltI (b := 10) (by omega) (by omega)).mpr z))
      have e6 : 10 ^ (k + 1) ≤ w := by rw [Nat.pow_succ, Nat.mul_comm]; exact (Nat.le_div_iff_mul_le p1.1).mp e7
      have e5 : k + 1 ≤ 9 := by
        refine Nat.le_of_not_lt fun z => ?_
        have : 10 ^ 10 ≤ 10 ^ (k + 1) := Nat.pow_le_pow_right (by omega) (by omega)
        simp only [Nat.reducePow] at this
        omega
      refine g_iload_n (pc := 10) d_MO_emitNumber_10 rfl 0 rfl ?_
      refine g_bipush (pc := 11) (v := 10) d_MO_emitNumber_11 (by decide) ?_
      refine g_imul (pc := 13) d_MO_emitNumber_13 ?_
      refine g_top (y := nI (10 ^ (k + 1))) (by rw [Nat.pow_succ]; exact nI_mul (10 ^ k) 10) ?_
      refine g_istore_n (pc := 14) (lv' := [(2, .int (nI (10 ^ (k + 1)))), (0, .ref m), (1, .int (nI w))]) d_MO_emitNumber_14 rfl (by decide) rfl ?_
      refine g_goto (pc := 15) (tgt := 2) d_MO_emitNumber_15 (by decide) ?_
      exact ih (k + 1) e5 (Or.inr e6) (by omega)
set_option maxRecDepth 20000 in
theorem cm_MO_emitNumber {E : En} {h : Hp} {m st mo : Nat} {c G0 O : Nat → Int32} {R : List (Nat × (Nat → Int32))} {w : Nat} {l : List Int32} (hM : MoOk h m st) (hO : MuOk h m mo) (nd : (m :: st :: mo :: R.map Prod.fst).Nodup) (hw : w < 2147483648) (hl : l.length < 100) : CR E m_MO_emitNumber [.ref m, .int (nI w)] (wL h ((m, (u1 c 16 (nI l.length))) :: (st, G0) :: (mo, (Wr O l)) :: R)) (none) (wL h ((m, (u1 c 16 (nI (l ++ dgF w (dgL w)).length))) :: (st, G0) :: (mo, (Wr O (l ++ dgF w (dgL w)))) :: R)) := by
  refine ct_of rfl (by decide +kernel) (Nat.le_of_ble_eq_true rfl) ?_
  show G E m_MO_emitNumber 0 [(0, .ref m), (1, .int (nI w))] [] (wL h ((m, (u1 c 16 (nI l.length))) :: (st, G0) :: (mo, (Wr O l)) :: R)) 0 0 _ noX
  obtain ⟨k_m, r_m_0, k_st, l_st⟩ := id hM
  obtain ⟨r_m_15, k_mo, l_mo⟩ := id hO
  refine g_iconst (pc := 0) (v := 1) d_MO_emitNumber_0 (by decide) ?_
  refine g_istore_n (pc := 1) (lv' := [(2, .int 1), (0, .ref m), (1, .int (nI w))]) d_MO_emitNumber_1 rfl (by decide) rfl ?_
  exact lp_MO_emitN1 hM hO nd hw hl 10 0 (by omega) (Or.inl rfl) (by omega)
set_option maxRecDepth 20000 in
theorem cm_MO_outputByte {E : En} {h : Hp} {m st mo : Nat} {c G0 O : Nat → Int32} {R : List (Nat × (Nat → Int32))} {j n : Nat} (hM : MoOk h m st) (hO : MuOk h m mo) (nd : (m :: st :: mo :: R.map Prod.fst).Nodup) (hc : c 16 = nI n) (hn : n ≤ 200) (hj : j < n) : CR E m_MO_outputByte [.ref m, .int (nI j)] (wL h ((m, c) :: (st, G0) :: (mo, O) :: R)) (some (.int (O j))) (wL h ((m, (u1 c 17 0)) :: (st, G0) :: (mo, O) :: R)) := by
  refine ct_of rfl (by decide +kernel) (Nat.le_of_ble_eq_true rfl) ?_
  show G E m_MO_outputByte 0 [(0, .ref m), (1, .int (nI j))] [] (wL h ((m, c) :: (st, G0) :: (mo, O) :: R)) 0 0 _ noX
  obtain ⟨k_m, r_m_0, k_st, l_st⟩ := id hM
  obtain ⟨r_m_15, k_mo, l_mo⟩ := id hO
  refine g_aload_n (pc := 0) d_MO_outputByte_0 rfl 0 rfl ?_
  refine g_iconst (pc := 1) (v := 0) d_MO_outputByte_1 (by decide) ?_
  refine g_lpI0 (pc := 2) (ci := 7) (f := 17) rfl d_MO_outputByte_2 fl_MO_52 (fun q hq => by cases hq; exact rfl) rfl rfl (by decide) k_m nd ?_
  refine g_iload_n (pc := 5) d_MO_outputByte_5 rfl 1 rfl ?_
  refine g_if_lt (pc := 6) (tgt := 26) d_MO_outputByte_6 (by decide) (fun c_6 => ?_) (fun c_6 => ?_)
  · exact absurd c_6 (nI_pos (by omega))
  · skip
    refine g_iload_n (pc := 9) d_MO_outputByte_9 rfl 1 rfl ?_
    refine g_aload_n (pc := 10) d_MO_outputByte_10 rfl 0 rfl ?_
    refine g_lgI0 (pc := 11) (ci := 7) (f := 16) rfl d_MO_outputByte_11 fl_MO_303 (by decide) k_m nd ?_
    refine g_icmp_ge (pc := 14) (tgt := 26) d_MO_outputByte_14 (by decide) (fun c_14 => ?_) (fun c_14 => ?_)
    · exact absurd ((nI_leI (b := j) (by omega) (by omega)).mp (show nI n ≤ nI j by rw [← hc]; exact c_14)) (by omega)
    · skip
      refine g_aload_n (pc := 17) d_MO_outputByte_17 rfl 0 rfl ?_
      refine g_getR (pc := 18) (ci := 7) (f := 15) (b := mo) rfl r_m_15 d_MO_outputByte_18 fl_MO_31 (by decide) k_m ?_
      refine g_iload_n (pc := 21) d_MO_outputByte_21 rfl 1 rfl ?_
      refine g_lba2 (pc := 22) (j := j) d_MO_outputByte_22 k_mo l_mo (by first | assumption | omega | decide) (by decide) nd ?_
      refine g_goto (pc := 23) (tgt := 27) d_MO_outputByte_23 (by decide) ?_
      refine g_iret (pc := 27) d_MO_outputByte_27 rfl ?_
      exact ⟨rfl, rfl⟩
set_option maxRecDepth 20000 in
theorem cm_MO_outputByteN {E : En} {h : Hp} {m st mo : Nat} {c G0 O : Nat → Int32} {R : List (Nat × (Nat → Int32))} {v : Int32} {n : Nat} (hM : MoOk h m st) (hO : MuOk h m mo) (nd : (m :: st :: mo :: R.map Prod.fst).Nodup) (hc : c 16 = nI n) (hn : n ≤ 200) (hv : v < 0 ∨ nI n ≤ v) : CR E m_MO_outputByte [.ref m, .int v] (wL h ((m, c) :: (st, G0) :: (mo, O) :: R)) (some (.int (-1))) (wL h ((m, (u1 c 17 0)) :: (st, G0) :: (mo, O) :: R)) := by
  refine ct_of rfl (by decide +kernel) (Nat.le_of_ble_eq_true rfl) ?_
  show G E m_MO_outputByte 0 [(0, .ref m), (1, .int v)] [] (wL h ((m, c) :: (st, G0) :: (mo, O) :: R)) 0 0 _ noX
  obtain ⟨k_m, r_m_0, k_st, l_st⟩ := id hM
  obtain ⟨r_m_15, k_mo, l_mo⟩ := id hO
  refine g_aload_n (pc := 0) d_MO_outputByte_0 rfl 0 rfl ?_
  refine g_iconst (pc := 1) (v := 0) d_MO_outputByte_1 (by decide) ?_
  refine g_lpI0 (pc := 2) (ci := 7) (f := 17) rfl d_MO_outputByte_2 fl_MO_52 (fun q hq => by cases hq; exact rfl) rfl rfl (by decide) k_m nd ?_
  refine g_iload_n (pc := 5) d_MO_outputByte_5 rfl 1 rfl ?_
  refine g_if_lt (pc := 6) (tgt := 26) d_MO_outputByte_6 (by decide) (fun c_6 => ?_) (fun c_6 => ?_)
  · skip
    refine g_iconst (pc := 26) (v := (-1)) d_MO_outputByte_26 (by decide) ?_
    refine g_iret (pc := 27) d_MO_outputByte_27 rfl ?_
    exact ⟨rfl, rfl⟩
  · skip
    refine g_iload_n (pc := 9) d_MO_outputByte_9 rfl 1 rfl ?_
    refine g_aload_n (pc := 10) d_MO_outputByte_10 rfl 0 rfl ?_
    refine g_lgI0 (pc := 11) (ci := 7) (f := 16) rfl d_MO_outputByte_11 fl_MO_303 (by decide) k_m nd ?_
    refine g_icmp_ge (pc := 14) (tgt := 26) d_MO_outputByte_14 (by decide) (fun c_14 => ?_) (fun c_14 => ?_)
    · skip
      refine g_iconst (pc := 26) (v := (-1)) d_MO_outputByte_26 (by decide) ?_
      refine g_iret (pc := 27) d_MO_outputByte_27 rfl ?_
      exact ⟨rfl, rfl⟩
    · exact absurd (hv.resolve_left c_6) (by rw [← hc]; exact c_14)
set_option maxRecDepth 20000 in
theorem cm_MO_writeShop {E : En} {h : Hp} {m st mo nw sc : Nat} {c g O : Nat → Int32} {B : Bu} {R : List (Nat × (Nat → Int32))} {ni U : Nat} {i : Nat} (hM : MoOk h m st) (hO : MuOk h m mo) (nd : (m :: st :: mo :: R.map Prod.fst).Nodup) (hG : Gd B nw sc ni U) (hi : i < sc) (hp : -2147483648 < (B.2.2 i 0).toInt) : CR E m_MO_writeShop [.ref m, .int (nI i)] (wL h ((m, c) :: (st, (enc nw sc B g)) :: (mo, O) :: R)) (some (.int (nI (txt (B.2.2 i 0) (decide ((M_tot B.1 B.2.1 (B.2.2 i) nw) = 0)) (M_stamped (B.2.2 i) (B.1 9)) (decide (B.2.2 i 12 ≠ 0))).length))) (wL h ((m, u1 (u1 c 17 0) 16 (nI (txt (B.2.2 i 0) (decide ((M_tot B.1 B.2.1 (B.2.2 i) nw) = 0)) (M_stamped (B.2.2 i) (B.1 9)) (decide (B.2.2 i 12 ≠ 0))).length)) :: (st, (enc nw sc B g)) :: (mo, Wr O (txt (B.2.2 i 0) (decide ((M_tot B.1 B.2.1 (B.2.2 i) nw) = 0)) (M_stamped (B.2.2 i) (B.1 9)) (decide (B.2.2 i 12 ≠ 0)))) :: R)) := by
  refine ct_of rfl (by decide +kernel) (Nat.le_of_ble_eq_true rfl) ?_
  show G E m_MO_writeShop 0 [(0, .ref m), (1, .int (nI i))] [] (wL h ((m, c) :: (st, (enc nw sc B g)) :: (mo, O) :: R)) 0 0 _ noX
  obtain ⟨k_m, r_m_0, k_st, l_st⟩ := id hM
  obtain ⟨hw, n6, hs, s8, h0, hni, n3, ⟨sd, hsd, hsx⟩, hop⟩ := id hG.1
  have hW : (B.2.2 i 0).toInt.natAbs < 2147483648 := by have h9 := (B.2.2 i 0).toInt_lt; omega
  by_cases z0 : (B.2.2 i 0) < 0
  · skip
    refine g_aload_n (pc := 0) d_MO_writeShop_0 rfl 0 rfl ?_
    refine g_iload_n (pc := 1) d_MO_writeShop_1 rfl 1 rfl ?_
    refine g_cV1 (pc := 2) (ci := 7) (As := [.int _]) d_MO_writeShop_2 rfl mv_MO_lacksShop st_MO_writeShop_284 rfl rfl (by decide) rfl rfl (Nat.le_of_ble_eq_true rfl) k_m (cm_MO_lacksShop hM nd hG hi) ?_
    refine g_if_eq (pc := 5) (tgt := 10) d_MO_writeShop_5 (by decide) (fun c_5 => ?_) (fun c_5 => ?_)
    · skip
      refine g_aload_n (pc := 10) d_MO_writeShop_10 rfl 0 rfl ?_
      refine g_iload_n (pc := 11) d_MO_writeShop_11 rfl 1 rfl ?_
      refine g_iconst (pc := 12) (v := 0) d_MO_writeShop_12 (by decide) ?_
      refine g_cV1 (pc := 13) (ci := 7) (As := [.int _, .int _]) d_MO_writeShop_13 rfl mv_MO_of st_MO_writeShop_69 rfl rfl (by decide) rfl rfl (Nat.le_of_ble_eq_true rfl) k_m (cm_MO_of (k := 0) hM nd n6 s8 hi (by decide)) ?_
      refine g_istore_n (pc := 16) (lv' := [(2, .int (B.2.2 i 0)), (0, .ref m), (1, .int (nI i))]) d_MO_writeShop_16 rfl (by decide) rfl ?_
      refine g_aload_n (pc := 17) d_MO_writeShop_17 rfl 1 rfl ?_
      refine g_iconst (pc := 18) (v := 0) d_MO_writeShop_18 (by decide) ?_
      refine g_lpI0 (pc := 19) (ci := 7) (f := 16) rfl d_MO_writeShop_19 fl_MO_303 (fun q hq => by cases hq; exact rfl) rfl rfl (by decide) k_m nd ?_
      refine g_h (h' := wL h ((m, u1 (u1 c 17 0) 16 (nI ([] : List Int32).length)) :: (st, (enc nw sc B g)) :: (mo, Wr O []) :: R)) (by rw [Wr_nil]; rfl) ?_
      refine g_iload_n (pc := 22) d_MO_writeShop_22 rfl 0 rfl ?_
      refine g_if_ge (pc := 23) (tgt := 32) d_MO_writeShop_23 (by decide) (fun c_23 => ?_) (fun c_23 => ?_)
      · exact absurd z0 (Int32.not_lt.mpr c_23)
      · skip
        refine g_aload_n (pc := 26) d_MO_writeShop_26 rfl 1 rfl ?_
        refine g_bipush (pc := 27) (v := 45) d_MO_writeShop_27 (by decide) ?_
        refine g_cV0 (pc := 29) (ci := 7) (As := [.int _]) d_MO_writeShop_29 rfl mv_MO_emit st_MO_writeShop_306 rfl rfl (by decide) rfl rfl (Nat.le_of_ble_eq_true rfl) k_m (cm_MO_emit (l := []) (b := 45) hM hO nd (by decide) (by decide)) ?_
        refine g_aload_n (pc := 32) d_MO_writeShop_32 rfl 1 rfl ?_
        refine g_iload_n (pc := 33) d_MO_writeShop_33 rfl 0 rfl ?_
        refine g_if_ge (pc := 34) (tgt := 42) d_MO_writeShop_34 (by decide) (fun c_34 => ?_) (fun c_34 => ?_)
        · exact absurd z0 (Int32.not_lt.mpr c_34)
        · skip
          refine g_iload_n (pc := 37) d_MO_writeShop_37 rfl 0 rfl ?_
          refine g_ineg (pc := 38) d_MO_writeShop_38 ?_
          refine g_goto (pc := 39) (tgt := 43) d_MO_writeShop_39 (by decide) ?_
          refine g_top (y := nI (B.2.2 i 0).toInt.natAbs) (i_natAbsN z0 hp) ?_
          refine g_cV0 (pc := 43) (ci := 7) (As := [.int _]) d_MO_writeShop_43 rfl mv_MO_emitNumber st_MO_writeShop_309 rfl rfl (by decide) rfl rfl (Nat.le_of_ble_eq_true rfl) k_m (cm_MO_emitNumber (l := ([] ++ [nI 45])) hM hO nd hW (by decide)) ?_
          refine g_aload_n (pc := 46) d_MO_writeShop_46 rfl 1 rfl ?_
          refine g_aload_n (pc := 47) d_MO_writeShop_47 rfl 1 rfl ?_
          refine g_iload_n (pc := 48) d_MO_writeShop_48 rfl 2 rfl ?_
          refine g_cV1 (pc := 49) (ci := 7) (As := [.int _]) d_MO_writeShop_49 rfl mv_MO_isRight st_MO_writeShop_99 rfl rfl (by decide) rfl rfl (Nat.le_of_ble_eq_true rfl) k_m (cm_MO_isRight hM nd n6 s8 hi hw) ?_
          refine g_if_eq (pc := 52) (tgt := 60) d_MO_writeShop_52 (by decide) (fun c_52 => ?_) (fun c_52 => ?_)
          · skip
            have z1 : ¬ (M_tot B.1 B.2.1 (B.2.2 i) nw) = 0 := of_decide_eq_false (bI_0.mp c_52)
            refine g_bipush (pc := 60) (v := 102) d_MO_writeShop_60 (by decide) ?_
            refine g_cV0 (pc := 62) (ci := 7) (As := [.int _]) d_MO_writeShop_62 rfl mv_MO_emit st_MO_writeShop_306 rfl rfl (by decide) rfl rfl (Nat.le_of_ble_eq_true rfl) k_m (cm_MO_emit (b := 102) hM hO nd (by have := (dgL_le (B.2.2 i 0).toInt.natAbs).2; simp only [List.length_append, dgF_len, List.length_cons, List.length_nil]; omega) (by decide)) ?_
            refine g_aload_n (pc := 65) d_MO_writeShop_65 rfl 1 rfl ?_
            refine g_iload_n (pc := 66) d_MO_writeShop_66 rfl 2 rfl ?_
            refine g_cV1 (pc := 67) (ci := 7) (As := [.int _]) d_MO_writeShop_67 rfl mv_MO_isValid st_MO_writeShop_103 rfl rfl (by decide) rfl rfl (Nat.le_of_ble_eq_true rfl) k_m (cm_MO_isValid hM nd n6 s8 hi) ?_
            refine g_if_eq (pc := 70) (tgt := 79) d_MO_writeShop_70 (by decide) (fun c_70 => ?_) (fun c_70 => ?_)
            · skip
              have z2 : (M_stamped (B.2.2 i) (B.1 9)) = false := bI_0.mp c_70
              refine g_aload_n (pc := 79) d_MO_writeShop_79 rfl 1 rfl ?_
              refine g_iload_n (pc := 80) d_MO_writeShop_80 rfl 2 rfl ?_
              refine g_cV1 (pc := 81) (ci := 7) (As := [.int _]) d_MO_writeShop_81 rfl mv_MO_isOpenShop st_MO_writeShop_115 rfl rfl (by decide) rfl rfl (Nat.le_of_ble_eq_true rfl) k_m (cm_MO_isOpenShop hM nd n6 s8 hi (hG.op hi)) ?_
              refine g_if_ne (pc := 84) (tgt := 93) d_MO_writeShop_84 (by decide) (fun c_84 => ?_) (fun c_84 => ?_)
              · skip
                have z3 : ¬ B.2.2 i 12 = 0 := of_decide_eq_true (bI_n0 c_84)
                refine g_aload_n (pc := 93) d_MO_writeShop_93 rfl 1 rfl ?_
                refine g_lgI0 (pc := 94) (ci := 7) (f := 16) rfl d_MO_writeShop_94 fl_MO_303 (by decide) k_m nd ?_
                refine g_iret (pc := 97) d_MO_writeShop_97 rfl ?_
                refine ⟨congrArg (fun q => some (Value.int (nI q))) (congrArg List.length ?_), ?_⟩
                all_goals
                  have e1 : txt (B.2.2 i 0) (decide ((M_tot B.1 B.2.1 (B.2.2 i) nw) = 0)) (M_stamped (B.2.2 i) (B.1 9)) (decide (B.2.2 i 12 ≠ 0)) = _ := rfl
                  unfold txt
                  simp [z0, z1, z2, z3, List.append_assoc, show nI 45 = (45 : Int32) from rfl, show nI 102 = (102 : Int32) from rfl, show nI 115 = (115 : Int32) from rfl, show nI 116 = (116 : Int32) from rfl, show nI 120 = (120 : Int32) from rfl]
              · skip
                have z3 : B.2.2 i 12 = 0 := Decidable.not_not.mp (of_decide_eq_false (bI_0.mp c_84))
                refine g_aload_n (pc := 87) d_MO_writeShop_87 rfl 1 rfl ?_
                refine g_bipush (pc := 88) (v := 120) d_MO_writeShop_88 (by decide) ?_
                refine g_cV0 (pc := 90) (ci := 7) (As := [.int _]) d_MO_writeShop_90 rfl mv_MO_emit st_MO_writeShop_306 rfl rfl (by decide) rfl rfl (Nat.le_of_ble_eq_true rfl) k_m (cm_MO_emit (b := 120) hM hO nd (by have := (dgL_le (B.2.2 i 0).toInt.natAbs).2; simp only [List.length_append, dgF_len, List.length_cons, List.length_nil]; omega) (by decide)) ?_
                refine g_aload_n (pc := 93) d_MO_writeShop_93 rfl 1 rfl ?_
                refine g_lgI0 (pc := 94) (ci := 7) (f := 16) rfl d_MO_writeShop_94 fl_MO_303 (by decide) k_m nd ?_
                refine g_iret (pc := 97) d_MO_writeShop_97 rfl ?_
                refine ⟨congrArg (fun q => some (Value.int (nI q))) (congrArg List.length ?_), ?_⟩
                all_goals
                  have e1 : txt (B.2.2 i 0) (decide ((M_tot B.1 B.2.1 (B.2.2 i) nw) = 0)) (M_stamped (B.2.2 i) (B.1 9)) (decide (B.2.2 i 12 ≠ 0)) = _ := rfl
                  unfold txt
                  simp [z0, z1, z2, z3, List.append_assoc, show nI 45 = (45 : Int32) from rfl, show nI 102 = (102 : Int32) from rfl, show nI 115 = (115 : Int32) from rfl, show nI 116 = (116 : Int32) from rfl, show nI 120 = (120 : Int32) from rfl]
            · skip
              have z2 := bI_n0 c_70
              refine g_aload_n (pc := 73) d_MO_writeShop_73 rfl 1 rfl ?_
              refine g_bipush (pc := 74) (v := 115) d_MO_writeShop_74 (by decide) ?_
              refine g_cV0 (pc := 76) (ci := 7) (As := [.int _]) d_MO_writeShop_76 rfl mv_MO_emit st_MO_writeShop_306 rfl rfl (by decide) rfl rfl (Nat.le_of_ble_eq_true rfl) k_m (cm_MO_emit (b := 115) hM hO nd (by have := (dgL_le (B.2.2 i 0).toInt.natAbs).2; simp only [List.length_append, dgF_len, List.length_cons, List.length_nil]; omega) (by decide)) ?_
              refine g_aload_n (pc := 79) d_MO_writeShop_79 rfl 1 rfl ?_
              refine g_iload_n (pc := 80) d_MO_writeShop_80 rfl 2 rfl ?_
              refine g_cV1 (pc := 81) (ci := 7) (As := [.int _]) d_MO_writeShop_81 rfl mv_MO_isOpenShop st_MO_writeShop_115 rfl rfl (by decide) rfl rfl (Nat.le_of_ble_eq_true rfl) k_m (cm_MO_isOpenShop hM nd n6 s8 hi (hG.op hi)) ?_
              refine g_if_ne (pc := 84) (tgt := 93) d_MO_writeShop_84 (by decide) (fun c_84 => ?_) (fun c_84 => ?_)
              · skip
                have z3 : ¬ B.2.2 i 12 = 0 := of_decide_eq_true (bI_n0 c_84)
                refine g_aload_n (pc := 93) d_MO_writeShop_93 rfl 1 rfl ?_
                refine g_lgI0 (pc := 94) (ci := 7) (f := 16) rfl d_MO_writeShop_94 fl_MO_303 (by decide) k_m nd ?_
                refine g_iret (pc := 97) d_MO_writeShop_97 rfl ?_
                refine ⟨congrArg (fun q => some (Value.int (nI q))) (congrArg List.length ?_), ?_⟩
                all_goals
                  have e1 : txt (B.2.2 i 0) (decide ((M_tot B.1 B.2.1 (B.2.2 i) nw) = 0)) (M_stamped (B.2.2 i) (B.1 9)) (decide (B.2.2 i 12 ≠ 0)) = _ := rfl
                  unfold txt
                  simp [z0, z1, z2, z3, List.append_assoc, show nI 45 = (45 : Int32) from rfl, show nI 102 = (102 : Int32) from rfl, show nI 115 = (115 : Int32) from rfl, show nI 116 = (116 : Int32) from rfl, show nI 120 = (120 : Int32) from rfl]
              · skip
                have z3 : B.2.2 i 12 = 0 := Decidable.not_not.mp (of_decide_eq_false (bI_0.mp c_84))
                refine g_aload_n (pc := 87) d_MO_writeShop_87 rfl 1 rfl ?_
                refine g_bipush (pc := 88) (v := 120) d_MO_writeShop_88 (by decide) ?_
                refine g_cV0 (pc := 90) (ci := 7) (As := [.int _]) d_MO_writeShop_90 rfl mv_MO_emit st_MO_writeShop_306 rfl rfl (by decide) rfl rfl (Nat.le_of_ble_eq_true rfl) k_m (cm_MO_emit (b := 120) hM hO nd (by have := (dgL_le (B.2.2 i 0).toInt.natAbs).2; simp only [List.length_append, dgF_len, List.length_cons, List.length_nil]; omega) (by decide)) ?_
                refine g_aload_n (pc := 93) d_MO_writeShop_93 rfl 1 rfl ?_
                refine g_lgI0 (pc := 94) (ci := 7) (f := 16) rfl d_MO_writeShop_94 fl_MO_303 (by decide) k_m nd ?_
                refine g_iret (pc := 97) d_MO_writeShop_97 rfl ?_
                refine ⟨congrArg (fun q => some (Value.int (nI q))) (congrArg List.length ?_), ?_⟩
                all_goals
                  have e1 : txt (B.2.2 i 0) (decide ((M_tot B.1 B.2.1 (B.2.2 i) nw) = 0)) (M_stamped (B.2.2 i) (B.1 9)) (decide (B.2.2 i 12 ≠ 0)) = _ := rfl
                  unfold txt
                  simp [z0, z1, z2, z3, List.append_assoc, show nI 45 = (45 : Int32) from rfl, show nI 102 = (102 : Int32) from rfl, show nI 115 = (115 : Int32) from rfl, show nI 116 = (116 : Int32) from rfl, show nI 120 = (120 : Int32) from rfl]
          · skip
            have z1 : (M_tot B.1 B.2.1 (B.2.2 i) nw) = 0 := of_decide_eq_true (bI_n0 c_52)
            refine g_bipush (pc := 55) (v := 116) d_MO_writeShop_55 (by decide) ?_
            refine g_goto (pc := 57) (tgt := 62) d_MO_writeShop_57 (by decide) ?_
            refine g_cV0 (pc := 62) (ci := 7) (As := [.int _]) d_MO_writeShop_62 rfl mv_MO_emit st_MO_writeShop_306 rfl rfl (by decide) rfl rfl (Nat.le_of_ble_eq_true rfl) k_m (cm_MO_emit (b := 116) hM hO nd (by have := (dgL_le (B.2.2 i 0).toInt.natAbs).2; simp only [List.length_append, dgF_len, List.length_cons, List.length_nil]; omega) (by decide)) ?_
            refine g_aload_n (pc := 65) d_MO_writeShop_65 rfl 1 rfl ?_
            refine g_iload_n (pc := 66) d_MO_writeShop_66 rfl 2 rfl ?_
            refine g_cV1 (pc := 67) (ci := 7) (As := [.int _]) d_MO_writeShop_67 rfl mv_MO_isValid st_MO_writeShop_103 rfl rfl (by decide) rfl rfl (Nat.le_of_ble_eq_true rfl) k_m (cm_MO_isValid hM nd n6 s8 hi) ?_
            refine g_if_eq (pc := 70) (tgt := 79) d_MO_writeShop_70 (by decide) (fun c_70 => ?_) (fun c_70 => ?_)
            · skip
              have z2 : (M_stamped (B.2.2 i) (B.1 9)) = false := bI_0.mp c_70
              refine g_aload_n (pc := 79) d_MO_writeShop_79 rfl 1 rfl ?_
              refine g_iload_n (pc := 80) d_MO_writeShop_80 rfl 2 rfl ?_
              refine g_cV1 (pc := 81) (ci := 7) (As := [.int _]) d_MO_writeShop_81 rfl mv_MO_isOpenShop st_MO_writeShop_115 rfl rfl (by decide) rfl rfl (Nat.le_of_ble_eq_true rfl) k_m (cm_MO_isOpenShop hM nd n6 s8 hi (hG.op hi)) ?_
              refine g_if_ne (pc := 84) (tgt := 93) d_MO_writeShop_84 (by decide) (fun c_84 => ?_) (fun c_84 => ?_)
              · skip
                have z3 : ¬ B.2.2 i 12 = 0 := of_decide_eq_true (bI_n0 c_84)
                refine g_aload_n (pc := 93) d_MO_writeShop_93 rfl 1 rfl ?_
                refine g_lgI0 (pc := 94) (ci := 7) (f := 16) rfl d_MO_writeShop_94 fl_MO_303 (by decide) k_m nd ?_
                refine g_iret (pc := 97) d_MO_writeShop_97 rfl ?_
                refine ⟨congrArg (fun q => some (Value.int (nI q))) (congrArg List.length ?_), ?_⟩
                all_goals
                  have e1 : txt (B.2.2 i 0) (decide ((M_tot B.1 B.2.1 (B.2.2 i) nw) = 0)) (M_stamped (B.2.2 i) (B.1 9)) (decide (B.2.2 i 12 ≠ 0)) = _ := rfl
                  unfold txt
                  simp [z0, z1, z2, z3, List.append_assoc, show nI 45 = (45 : Int32) from rfl, show nI 102 = (102 : Int32) from rfl, show nI 115 = (115 : Int32) from rfl, show nI 116 = (116 : Int32) from rfl, show nI 120 = (120 : Int32) from rfl]
              · skip
                have z3 : B.2.2 i 12 = 0 := Decidable.not_not.mp (of_decide_eq_false (bI_0.mp c_84))
                refine g_aload_n (pc := 87) d_MO_writeShop_87 rfl 1 rfl ?_
                refine g_bipush (pc := 88) (v := 120) d_MO_writeShop_88 (by decide) ?_
                refine g_cV0 (pc := 90) (ci := 7) (As := [.int _]) d_MO_writeShop_90 rfl mv_MO_emit st_MO_writeShop_306 rfl rfl (by decide) rfl rfl (Nat.le_of_ble_eq_true rfl) k_m (cm_MO_emit (b := 120) hM hO nd (by have := (dgL_le (B.2.2 i 0).toInt.natAbs).2; simp only [List.length_append, dgF_len, List.length_cons, List.length_nil]; omega) (by decide)) ?_
                refine g_aload_n (pc := 93) d_MO_writeShop_93 rfl 1 rfl ?_
                refine g_lgI0 (pc := 94) (ci := 7) (f := 16) rfl d_MO_writeShop_94 fl_MO_303 (by decide) k_m nd ?_
                refine g_iret (pc := 97) d_MO_writeShop_97 rfl ?_
                refine ⟨congrArg (fun q => some (Value.int (nI q))) (congrArg List.length ?_), ?_⟩
                all_goals
                  have e1 : txt (B.2.2 i 0) (decide ((M_tot B.1 B.2.1 (B.2.2 i) nw) = 0)) (M_stamped (B.2.2 i) (B.1 9)) (decide (B.2.2 i 12 ≠ 0)) = _ := rfl
                  unfold txt
                  simp [z0, z1, z2, z3, List.append_assoc, show nI 45 = (45 : Int32) from rfl, show nI 102 = (102 : Int32) from rfl, show nI 115 = (115 : Int32) from rfl, show nI 116 = (116 : Int32) from rfl, show nI 120 = (120 : Int32) from rfl]
            · skip
              have z2 := bI_n0 c_70
              refine g_aload_n (pc := 73) d_MO_writeShop_73 rfl 1 rfl ?_
              refine g_bipush (pc := 74) (v := 115) d_MO_writeShop_74 (by decide) ?_
              refine g_cV0 (pc := 76) (ci := 7) (As := [.int _]) d_MO_writeShop_76 rfl mv_MO_emit st_MO_writeShop_306 rfl rfl (by decide) rfl rfl (Nat.le_of_ble_eq_true rfl) k_m (cm_MO_emit (b := 115) hM hO nd (by have := (dgL_le (B.2.2 i 0).toInt.natAbs).2; simp only [List.length_append, dgF_len, List.length_cons, List.length_nil]; omega) (by decide)) ?_
              refine g_aload_n (pc := 79) d_MO_writeShop_79 rfl 1 rfl ?_
              refine g_iload_n (pc := 80) d_MO_writeShop_80 rfl 2 rfl ?_
              refine g_cV1 (pc := 81) (ci := 7) (As := [.int _]) d_MO_writeShop_81 rfl mv_MO_isOpenShop st_MO_writeShop_115 rfl rfl (by decide) rfl rfl (Nat.le_of_ble_eq_true rfl) k_m (cm_MO_isOpenShop hM nd n6 s8 hi (hG.op hi)) ?_
              refine g_if_ne (pc := 84) (tgt := 93) d_MO_writeShop_84 (by decide) (fun c_84 => ?_) (fun c_84 => ?_)
              · skip
                have z3 : ¬ B.2.2 i 12 = 0 := of_decide_eq_true (bI_n0 c_84)
                refine g_aload_n (pc := 93) d_MO_writeShop_93 rfl 1 rfl ?_
                refine g_lgI0 (pc := 94) (ci := 7) (f := 16) rfl d_MO_writeShop_94 fl_MO_303 (by decide) k_m nd ?_
                refine g_iret (pc := 97) d_MO_writeShop_97 rfl ?_
                refine ⟨congrArg (fun q => some (Value.int (nI q))) (congrArg List.length ?_), ?_⟩
                all_goals
                  have e1 : txt (B.2.2 i 0) (decide ((M_tot B.1 B.2.1 (B.2.2 i) nw) = 0)) (M_stamped (B.2.2 i) (B.1 9)) (decide (B.2.2 i 12 ≠ 0)) = _ := rfl
                  unfold txt
                  simp [z0, z1, z2, z3, List.append_assoc, show nI 45 = (45 : Int32) from rfl, show nI 102 = (102 : Int32) from rfl, show nI 115 = (115 : Int32) from rfl, show nI 116 = (116 : Int32) from rfl, show nI 120 = (120 : Int32) from rfl]
              · skip
                have z3 : B.2.2 i 12 = 0 := Decidable.not_not.mp (of_decide_eq_false (bI_0.mp c_84))
                refine g_aload_n (pc := 87) d_MO_writeShop_87 rfl 1 rfl ?_
                refine g_bipush (pc := 88) (v := 120) d_MO_writeShop_88 (by decide) ?_
                refine g_cV0 (pc := 90) (ci := 7) (As := [.int _]) d_MO_writeShop_90 rfl mv_MO_emit st_MO_writeShop_306 rfl rfl (by decide) rfl rfl (Nat.le_of_ble_eq_true rfl) k_m (cm_MO_emit (b := 120) hM hO nd (by have := (dgL_le (B.2.2 i 0).toInt.natAbs).2; simp only [List.length_append, dgF_len, List.length_cons, List.length_nil]; omega) (by decide)) ?_
                refine g_aload_n (pc := 93) d_MO_writeShop_93 rfl 1 rfl ?_
                refine g_lgI0 (pc := 94) (ci := 7) (f := 16) rfl d_MO_writeShop_94 fl_MO_303 (by decide) k_m nd ?_
                refine g_iret (pc := 97) d_MO_writeShop_97 rfl ?_
                refine ⟨congrArg (fun q => some (Value.int (nI q))) (congrArg List.length ?_), ?_⟩
                all_goals
                  have e1 : txt (B.2.2 i 0) (decide ((M_tot B.1 B.2.1 (B.2.2 i) nw) = 0)) (M_stamped (B.2.2 i) (B.1 9)) (decide (B.2.2 i 12 ≠ 0)) = _ := rfl
                  unfold txt
                  simp [z0, z1, z2, z3, List.append_assoc, show nI 45 = (45 : Int32) from rfl, show nI 102 = (102 : Int32) from rfl, show nI 115 = (115 : Int32) from rfl, show nI 116 = (116 : Int32) from rfl, show nI 120 = (120 : Int32) from rfl]
    · exact (c_5 (by decide)).elim
  · skip
    refine g_aload_n (pc := 0) d_MO_writeShop_0 rfl 0 rfl ?_
    refine g_iload_n (pc := 1) d_MO_writeShop_1 rfl 1 rfl ?_
    refine g_cV1 (pc := 2) (ci := 7) (As := [.int _]) d_MO_writeShop_2 rfl mv_MO_lacksShop st_MO_writeShop_284 rfl rfl (by decide) rfl rfl (Nat.le_of_ble_eq_true rfl) k_m (cm_MO_lacksShop hM nd hG hi) ?_
    refine g_if_eq (pc := 5) (tgt := 10) d_MO_writeShop_5 (by decide) (fun c_5 => ?_) (fun c_5 => ?_)
    · skip
      refine g_aload_n (pc := 10) d_MO_writeShop_10 rfl 0 rfl ?_
      refine g_iload_n (pc := 11) d_MO_writeShop_11 rfl 1 rfl ?_
      refine g_iconst (pc := 12) (v := 0) d_MO_writeShop_12 (by decide) ?_
      refine g_cV1 (pc := 13) (ci := 7) (As := [.int _, .int _]) d_MO_writeShop_13 rfl mv_MO_of st_MO_writeShop_69 rfl rfl (by decide) rfl rfl (Nat.le_of_ble_eq_true rfl) k_m (cm_MO_of (k := 0) hM nd n6 s8 hi (by decide)) ?_
      refine g_istore_n (pc := 16) (lv' := [(2, .int (B.2.2 i 0)), (0, .ref m), (1, .int (nI i))]) d_MO_writeShop_16 rfl (by decide) rfl ?_
      refine g_aload_n (pc := 17) d_MO_writeShop_17 rfl 1 rfl ?_
      refine g_iconst (pc := 18) (v := 0) d_MO_writeShop_18 (by decide) ?_
      refine g_lpI0 (pc := 19) (ci := 7) (f := 16) rfl d_MO_writeShop_19 fl_MO_303 (fun q hq => by cases hq; exact rfl) rfl rfl (by decide) k_m nd ?_
      refine g_h (h' := wL h ((m, u1 (u1 c 17 0) 16 (nI ([] : List Int32).length)) :: (st, (enc nw sc B g)) :: (mo, Wr O []) :: R)) (by rw [Wr_nil]; rfl) ?_
      refine g_iload_n (pc := 22) d_MO_writeShop_22 rfl 0 rfl ?_
      refine g_if_ge (pc := 23) (tgt := 32) d_MO_writeShop_23 (by decide) (fun c_23 => ?_) (fun c_23 => ?_)
      · skip
        refine g_aload_n (pc := 32) d_MO_writeShop_32 rfl 1 rfl ?_
        refine g_iload_n (pc := 33) d_MO_writeShop_33 rfl 0 rfl ?_
        refine g_if_ge (pc := 34) (tgt := 42) d_MO_writeShop_34 (by decide) (fun c_34 => ?_) (fun c_34 => ?_)
        · skip
          refine g_iload_n (pc := 42) d_MO_writeShop_42 rfl 0 rfl ?_
          refine g_top (y := nI (B.2.2 i 0).toInt.natAbs) (i_natAbs z0) ?_
          refine g_cV0 (pc := 43) (ci := 7) (As := [.int _]) d_MO_writeShop_43 rfl mv_MO_emitNumber st_MO_writeShop_309 rfl rfl (by decide) rfl rfl (Nat.le_of_ble_eq_true rfl) k_m (cm_MO_emitNumber (l := []) hM hO nd hW (by decide)) ?_
          refine g_aload_n (pc := 46) d_MO_writeShop_46 rfl 1 rfl ?_
          refine g_aload_n (pc := 47) d_MO_writeShop_47 rfl 1 rfl ?_
          refine g_iload_n (pc := 48) d_MO_writeShop_48 rfl 2 rfl ?_
          refine g_cV1 (pc := 49) (ci := 7) (As := [.int _]) d_MO_writeShop_49 rfl mv_MO_isRight st_MO_writeShop_99 rfl rfl (by decide) rfl rfl (Nat.le_of_ble_eq_true rfl) k_m (cm_MO_isRight hM nd n6 s8 hi hw) ?_
          refine g_if_eq (pc := 52) (tgt := 60) d_MO_writeShop_52 (by decide) (fun c_52 => ?_) (fun c_52 => ?_)
          · skip
            have z1 : ¬ (M_tot B.1 B.2.1 (B.2.2 i) nw) = 0 := of_decide_eq_false (bI_0.mp c_52)
            refine g_bipush (pc := 60) (v := 102) d_MO_writeShop_60 (by decide) ?_
            refine g_cV0 (pc := 62) (ci := 7) (As := [.int _]) d_MO_writeShop_62 rfl mv_MO_emit st_MO_writeShop_306 rfl rfl (by decide) rfl rfl (Nat.le_of_ble_eq_true rfl) k_m (cm_MO_emit (b := 102) hM hO nd (by have := (dgL_le (B.2.2 i 0).toInt.natAbs).2; simp only [List.length_append, dgF_len, List.length_cons, List.length_nil]; omega) (by decide)) ?_
            refine g_aload_n (pc := 65) d_MO_writeShop_65 rfl 1 rfl ?_
            refine g_iload_n (pc := 66) d_MO_writeShop_66 rfl 2 rfl ?_
            refine g_cV1 (pc := 67) (ci := 7) (As := [.int _]) d_MO_writeShop_67 rfl mv_MO_isValid st_MO_writeShop_103 rfl rfl (by decide) rfl rfl (Nat.le_of_ble_eq_true rfl) k_m (cm_MO_isValid hM nd n6 s8 hi) ?_
            refine g_if_eq (pc := 70) (tgt := 79) d_MO_writeShop_70 (by decide) (fun c_70 => ?_) (fun c_70 => ?_)
            · skip
              have z2 : (M_stamped (B.2.2 i) (B.1 9)) = false := bI_0.mp c_70
              refine g_aload_n (pc := 79) d_MO_writeShop_79 rfl 1 rfl ?_
              refine g_iload_n (pc := 80) d_MO_writeShop_80 rfl 2 rfl ?_
              refine g_cV1 (pc := 81) (ci := 7) (As := [.int _]) d_MO_writeShop_81 rfl mv_MO_isOpenShop st_MO_writeShop_115 rfl rfl (by decide) rfl rfl (Nat.le_of_ble_eq_true rfl) k_m (cm_MO_isOpenShop hM nd n6 s8 hi (hG.op hi)) ?_
              refine g_if_ne (pc := 84) (tgt := 93) d_MO_writeShop_84 (by decide) (fun c_84 => ?_) (fun c_84 => ?_)
              · skip
                have z3 : ¬ B.2.2 i 12 = 0 := of_decide_eq_true (bI_n0 c_84)
                refine g_aload_n (pc := 93) d_MO_writeShop_93 rfl 1 rfl ?_
                refine g_lgI0 (pc := 94) (ci := 7) (f := 16) rfl d_MO_writeShop_94 fl_MO_303 (by decide) k_m nd ?_
                refine g_iret (pc := 97) d_MO_writeShop_97 rfl ?_
                refine ⟨congrArg (fun q => some (Value.int (nI q))) (congrArg List.length ?_), ?_⟩
                all_goals
                  have e1 : txt (B.2.2 i 0) (decide ((M_tot B.1 B.2.1 (B.2.2 i) nw) = 0)) (M_stamped (B.2.2 i) (B.1 9)) (decide (B.2.2 i 12 ≠ 0)) = _ := rfl
                  unfold txt
                  simp [z0, z1, z2, z3, List.append_assoc, show nI 45 = (45 : Int32) from rfl, show nI 102 = (102 : Int32) from rfl, show nI 115 = (115 : Int32) from rfl, show nI 116 = (116 : Int32) from rfl, show nI 120 = (120 : Int32) from rfl]
              · skip
                have z3 : B.2.2 i 12 = 0 := Decidable.not_not.mp (of_decide_eq_false (bI_0.mp c_84))
                refine g_aload_n (pc := 87) d_MO_writeShop_87 rfl 1 rfl ?_
                refine g_bipush (pc := 88) (v := 120) d_MO_writeShop_88 (by decide) ?_
                refine g_cV0 (pc := 90) (ci := 7) (As := [.int _]) d_MO_writeShop_90 rfl mv_MO_emit st_MO_writeShop_306 rfl rfl (by decide) rfl rfl (Nat.le_of_ble_eq_true rfl) k_m (cm_MO_emit (b := 120) hM hO nd (by have := (dgL_le (B.2.2 i 0).toInt.natAbs).2; simp only [List.length_append, dgF_len, List.length_cons, List.length_nil]; omega) (by decide)) ?_
                refine g_aload_n (pc := 93) d_MO_writeShop_93 rfl 1 rfl ?_
                refine g_lgI0 (pc := 94) (ci := 7) (f := 16) rfl d_MO_writeShop_94 fl_MO_303 (by decide) k_m nd ?_
                refine g_iret (pc := 97) d_MO_writeShop_97 rfl ?_
                refine ⟨congrArg (fun q => some (Value.int (nI q))) (congrArg List.length ?_), ?_⟩
                all_goals
                  have e1 : txt (B.2.2 i 0) (decide ((M_tot B.1 B.2.1 (B.2.2 i) nw) = 0)) (M_stamped (B.2.2 i) (B.1 9)) (decide (B.2.2 i 12 ≠ 0)) = _ := rfl
                  unfold txt
                  simp [z0, z1, z2, z3, List.append_assoc, show nI 45 = (45 : Int32) from rfl, show nI 102 = (102 : Int32) from rfl, show nI 115 = (115 : Int32) from rfl, show nI 116 = (116 : Int32) from rfl, show nI 120 = (120 : Int32) from rfl]
            · skip
              have z2 := bI_n0 c_70
              refine g_aload_n (pc := 73) d_MO_writeShop_73 rfl 1 rfl ?_
              refine g_bipush (pc := 74) (v := 115) d_MO_writeShop_74 (by decide) ?_
              refine g_cV0 (pc := 76) (ci := 7) (As := [.int _]) d_MO_writeShop_76 rfl mv_MO_emit st_MO_writeShop_306 rfl rfl (by decide) rfl rfl (Nat.le_of_ble_eq_true rfl) k_m (cm_MO_emit (b := 115) hM hO nd (by have := (dgL_le (B.2.2 i 0).toInt.natAbs).2; simp only [List.length_append, dgF_len, List.length_cons, List.length_nil]; omega) (by decide)) ?_
              refine g_aload_n (pc := 79) d_MO_writeShop_79 rfl 1 rfl ?_
              refine g_iload_n (pc := 80) d_MO_writeShop_80 rfl 2 rfl ?_
              refine g_cV1 (pc := 81) (ci := 7) (As := [.int _]) d_MO_writeShop_81 rfl mv_MO_isOpenShop st_MO_writeShop_115 rfl rfl (by decide) rfl rfl (Nat.le_of_ble_eq_true rfl) k_m (cm_MO_isOpenShop hM nd n6 s8 hi (hG.op hi)) ?_
              refine g_if_ne (pc := 84) (tgt := 93) d_MO_writeShop_84 (by decide) (fun c_84 => ?_) (fun c_84 => ?_)
              · skip
                have z3 : ¬ B.2.2 i 12 = 0 := of_decide_eq_true (bI_n0 c_84)
                refine g_aload_n (pc := 93) d_MO_writeShop_93 rfl 1 rfl ?_
                refine g_lgI0 (pc := 94) (ci := 7) (f := 16) rfl d_MO_writeShop_94 fl_MO_303 (by decide) k_m nd ?_
                refine g_iret (pc := 97) d_MO_writeShop_97 rfl ?_
                refine ⟨congrArg (fun q => some (Value.int (nI q))) (congrArg List.length ?_), ?_⟩
                all_goals
                  have e1 : txt (B.2.2 i 0) (decide ((M_tot B.1 B.2.1 (B.2.2 i) nw) = 0)) (M_stamped (B.2.2 i) (B.1 9)) (decide (B.2.2 i 12 ≠ 0)) = _ := rfl
                  unfold txt
                  simp [z0, z1, z2, z3, List.append_assoc, show nI 45 = (45 : Int32) from rfl, show nI 102 = (102 : Int32) from rfl, show nI 115 = (115 : Int32) from rfl, show nI 116 = (116 : Int32) from rfl, show nI 120 = (120 : Int32) from rfl]
              · skip
                have z3 : B.2.2 i 12 = 0 := Decidable.not_not.mp (of_decide_eq_false (bI_0.mp c_84))
                refine g_aload_n (pc := 87) d_MO_writeShop_87 rfl 1 rfl ?_
                refine g_bipush (pc := 88) (v := 120) d_MO_writeShop_88 (by decide) ?_
                refine g_cV0 (pc := 90) (ci := 7) (As := [.int _]) d_MO_writeShop_90 rfl mv_MO_emit st_MO_writeShop_306 rfl rfl (by decide) rfl rfl (Nat.le_of_ble_eq_true rfl) k_m (cm_MO_emit (b := 120) hM hO nd (by have := (dgL_le (B.2.2 i 0).toInt.natAbs).2; simp only [List.length_append, dgF_len, List.length_cons, List.length_nil]; omega) (by decide)) ?_
                refine g_aload_n (pc := 93) d_MO_writeShop_93 rfl 1 rfl ?_
                refine g_lgI0 (pc := 94) (ci := 7) (f := 16) rfl d_MO_writeShop_94 fl_MO_303 (by decide) k_m nd ?_
                refine g_iret (pc := 97) d_MO_writeShop_97 rfl ?_
                refine ⟨congrArg (fun q => some (Value.int (nI q))) (congrArg List.length ?_), ?_⟩
                all_goals
                  have e1 : txt (B.2.2 i 0) (decide ((M_tot B.1 B.2.1 (B.2.2 i) nw) = 0)) (M_stamped (B.2.2 i) (B.1 9)) (decide (B.2.2 i 12 ≠ 0)) = _ := rfl
                  unfold txt
                  simp [z0, z1, z2, z3, List.append_assoc, show nI 45 = (45 : Int32) from rfl, show nI 102 = (102 : Int32) from rfl, show nI 115 = (115 : Int32) from rfl, show nI 116 = (116 : Int32) from rfl, show nI 120 = (120 : Int32) from rfl]
          · skip
            have z1 : (M_tot B.1 B.2.1 (B.2.2 i) nw) = 0 := of_decide_eq_true (bI_n0 c_52)
            refine g_bipush (pc := 55) (v := 116) d_MO_writeShop_55 (by decide) ?_
            refine g_goto (pc := 57) (tgt := 62) d_MO_writeShop_57 (by decide) ?_
            refine g_cV0 (pc := 62) (ci := 7) (As := [.int _]) d_MO_writeShop_62 rfl mv_MO_emit st_MO_writeShop_306 rfl rfl (by decide) rfl rfl (Nat.le_of_ble_eq_true rfl) k_m (cm_MO_emit (b := 116) hM hO nd (by have := (dgL_le (B.2.2 i 0).toInt.natAbs).2; simp only [List.length_append, dgF_len, List.length_cons, List.length_nil]; omega) (by decide)) ?_
            refine g_aload_n (pc := 65) d_MO_writeShop_65 rfl 1 rfl ?_
            refine g_iload_n (pc := 66) d_MO_writeShop_66 rfl 2 rfl ?_
            refine g_cV1 (pc := 67) (ci := 7) (As := [.int _]) d_MO_writeShop_67 rfl mv_MO_isValid st_MO_writeShop_103 rfl rfl (by decide) rfl rfl (Nat.le_of_ble_eq_true rfl) k_m (cm_MO_isValid hM nd n6 s8 hi) ?_
            refine g_if_eq (pc := 70) (tgt := 79) d_MO_writeShop_70 (by decide) (fun c_70 => ?_) (fun c_70 => ?_)
            · skip
              have z2 : (M_stamped (B.2.2 i) (B.1 9)) = false := bI_0.mp c_70
              refine g_aload_n (pc := 79) d_MO_writeShop_79 rfl 1 rfl ?_
              refine g_iload_n (pc := 80) d_MO_writeShop_80 rfl 2 rfl ?_
              refine g_cV1 (pc := 81) (ci := 7) (As := [.int _]) d_MO_writeShop_81 rfl mv_MO_isOpenShop st_MO_writeShop_115 rfl rfl (by decide) rfl rfl (Nat.le_of_ble_eq_true rfl) k_m (cm_MO_isOpenShop hM nd n6 s8 hi (hG.op hi)) ?_
              refine g_if_ne (pc := 84) (tgt := 93) d_MO_writeShop_84 (by decide) (fun c_84 => ?_) (fun c_84 => ?_)
              · skip
                have z3 : ¬ B.2.2 i 12 = 0 := of_decide_eq_true (bI_n0 c_84)
                refine g_aload_n (pc := 93) d_MO_writeShop_93 rfl 1 rfl ?_
                refine g_lgI0 (pc := 94) (ci := 7) (f := 16) rfl d_MO_writeShop_94 fl_MO_303 (by decide) k_m nd ?_
                refine g_iret (pc := 97) d_MO_writeShop_97 rfl ?_
                refine ⟨congrArg (fun q => some (Value.int (nI q))) (congrArg List.length ?_), ?_⟩
                all_goals
                  have e1 : txt (B.2.2 i 0) (decide ((M_tot B.1 B.2.1 (B.2.2 i) nw) = 0)) (M_stamped (B.2.2 i) (B.1 9)) (decide (B.2.2 i 12 ≠ 0)) = _ := rfl
                  unfold txt
                  simp [z0, z1, z2, z3, List.append_assoc, show nI 45 = (45 : Int32) from rfl, show nI 102 = (102 : Int32) from rfl, show nI 115 = (115 : Int32) from rfl, show nI 116 = (116 : Int32) from rfl, show nI 120 = (120 : Int32) from rfl]
              · skip
                have z3 : B.2.2 i 12 = 0 := Decidable.not_not.mp (of_decide_eq_false (bI_0.mp c_84))
                refine g_aload_n (pc := 87) d_MO_writeShop_87 rfl 1 rfl ?_
                refine g_bipush (pc := 88) (v := 120) d_MO_writeShop_88 (by decide) ?_
                refine g_cV0 (pc := 90) (ci := 7) (As := [.int _]) d_MO_writeShop_90 rfl mv_MO_emit st_MO_writeShop_306 rfl rfl (by decide) rfl rfl (Nat.le_of_ble_eq_true rfl) k_m (cm_MO_emit (b := 120) hM hO nd (by have := (dgL_le (B.2.2 i 0).toInt.natAbs).2; simp only [List.length_append, dgF_len, List.length_cons, List.length_nil]; omega) (by decide)) ?_
                refine g_aload_n (pc := 93) d_MO_writeShop_93 rfl 1 rfl ?_
                refine g_lgI0 (pc := 94) (ci := 7) (f := 16) rfl d_MO_writeShop_94 fl_MO_303 (by decide) k_m nd ?_
                refine g_iret (pc := 97) d_MO_writeShop_97 rfl ?_
                refine ⟨congrArg (fun q => some (Value.int (nI q))) (congrArg List.length ?_), ?_⟩
                all_goals
                  have e1 : txt (B.2.2 i 0) (decide ((M_tot B.1 B.2.1 (B.2.2 i) nw) = 0)) (M_stamped (B.2.2 i) (B.1 9)) (decide (B.2.2 i 12 ≠ 0)) = _ := rfl
                  unfold txt
                  simp [z0, z1, z2, z3, List.append_assoc, show nI 45 = (45 : Int32) from rfl, show nI 102 = (102 : Int32) from rfl, show nI 115 = (115 : Int32) from rfl, show nI 116 = (116 : Int32) from rfl, show nI 120 = (120 : Int32) from rfl]
            · skip
              have z2 := bI_n0 c_70
              refine g_aload_n (pc := 73) d_MO_writeShop_73 rfl 1 rfl ?_
              refine g_bipush (pc := 74) (v := 115) d_MO_writeShop_74 (by decide) ?_
              refine g_cV0 (pc := 76) (ci := 7) (As := [.int _]) d_MO_writeShop_76 rfl mv_MO_emit st_MO_writeShop_306 rfl rfl (by decide) rfl rfl (Nat.le_of_ble_eq_true rfl) k_m (cm_MO_emit (b := 115) hM hO nd (by have := (dgL_le (B.2.2 i 0).toInt.natAbs).2; simp only [List.length_append, dgF_len, List.length_cons, List.length_nil]; omega) (by decide)) ?_
              refine g_aload_n (pc := 79) d_MO_writeShop_79 rfl 1 rfl ?_
              refine g_iload_n (pc := 80) d_MO_writeShop_80 rfl 2 rfl ?_
              refine g_cV1 (pc := 81) (ci := 7) (As := [.int _]) d_MO_writeShop_81 rfl mv_MO_isOpenShop st_MO_writeShop_115 rfl rfl (by decide) rfl rfl (Nat.le_of_ble_eq_true rfl) k_m (cm_MO_isOpenShop hM nd n6 s8 hi (hG.op hi)) ?_
              refine g_if_ne (pc := 84) (tgt := 93) d_MO_writeShop_84 (by decide) (fun c_84 => ?_) (fun c_84 => ?_)
              · skip
                have z3 : ¬ B.2.2 i 12 = 0 := of_decide_eq_true (bI_n0 c_84)
                refine g_aload_n (pc := 93) d_MO_writeShop_93 rfl 1 rfl ?_
                refine g_lgI0 (pc := 94) (ci := 7) (f := 16) rfl d_MO_writeShop_94 fl_MO_303 (by decide) k_m nd ?_
                refine g_iret (pc := 97) d_MO_writeShop_97 rfl ?_
                refine ⟨congrArg (fun q => some (Value.int (nI q))) (congrArg List.length ?_), ?_⟩
                all_goals
                  have e1 : txt (B.2.2 i 0) (decide ((M_tot B.1 B.2.1 (B.2.2 i) nw) = 0)) (M_stamped (B.2.2 i) (B.1 9)) (decide (B.2.2 i 12 ≠ 0)) = _ := rfl
                  unfold txt
                  simp [z0, z1, z2, z3, List.append_assoc, show nI 45 = (45 : Int32) from rfl, show nI 102 = (102 : Int32) from rfl, show nI 115 = (115 : Int32) from rfl, show nI 116 = (116 : Int32) from rfl, show nI 120 = (120 : Int32) from rfl]
              · skip
                have z3 : B.2.2 i 12 = 0 := Decidable.not_not.mp (of_decide_eq_false (bI_0.mp c_84))
                refine g_aload_n (pc := 87) d_MO_writeShop_87 rfl 1 rfl ?_
                refine g_bipush (pc := 88) (v := 120) d_MO_writeShop_88 (by decide) ?_
                refine g_cV0 (pc := 90) (ci := 7) (As := [.int _]) d_MO_writeShop_90 rfl mv_MO_emit st_MO_writeShop_306 rfl rfl (by decide) rfl rfl (Nat.le_of_ble_eq_true rfl) k_m (cm_MO_emit (b := 120) hM hO nd (by have := (dgL_le (B.2.2 i 0).toInt.natAbs).2; simp only [List.length_append, dgF_len, List.length_cons, List.length_nil]; omega) (by decide)) ?_
                refine g_aload_n (pc := 93) d_MO_writeShop_93 rfl 1 rfl ?_
                refine g_lgI0 (pc := 94) (ci := 7) (f := 16) rfl d_MO_writeShop_94 fl_MO_303 (by decide) k_m nd ?_
                refine g_iret (pc := 97) d_MO_writeShop_97 rfl ?_
                refine ⟨congrArg (fun q => some (Value.int (nI q))) (congrArg List.length ?_), ?_⟩
                all_goals
                  have e1 : txt (B.2.2 i 0) (decide ((M_tot B.1 B.2.1 (B.2.2 i) nw) = 0)) (M_stamped (B.2.2 i) (B.1 9)) (decide (B.2.2 i 12 ≠ 0)) = _ := rfl
                  unfold txt
                  simp [z0, z1, z2, z3, List.append_assoc, show nI 45 = (45 : Int32) from rfl, show nI 102 = (102 : Int32) from rfl, show nI 115 = (115 : Int32) from rfl, show nI 116 = (116 : Int32) from rfl, show nI 120 = (120 : Int32) from rfl]
        · exact (z0 (Int32.not_le.mp c_34)).elim
      · exact (z0 (Int32.not_le.mp c_23)).elim
    · exact (c_5 (by decide)).elim
set_option maxRecDepth 20000 in
theorem cm_MO_writeShopN {E : En} {h : Hp} {m st nw sc : Nat} {c g : Nat → Int32} {B : Bu} {R : List (Nat × (Nat → Int32))} {ni U : Nat} {v : Int32} (hM : MoOk h m st) (nd : (m :: st :: R.map Prod.fst).Nodup) (hG : Gd B nw sc ni U) (hv : v < 0 ∨ nI sc ≤ v) : CR E m_MO_writeShop [.ref m, .int v] (wL h ((m, c) :: (st, enc nw sc B g) :: R)) (some (.int 0)) (wL h ((m, (u1 c 17 1)) :: (st, enc nw sc B g) :: R)) := by
  refine ct_of rfl (by decide +kernel) (Nat.le_of_ble_eq_true rfl) ?_
  show G E m_MO_writeShop 0 [(0, .ref m), (1, .int v)] [] (wL h ((m, c) :: (st, enc nw sc B g) :: R)) 0 0 _ noX
  obtain ⟨k_m, r_m_0, k_st, l_st⟩ := id hM
  obtain ⟨hw, n6, hs, s8, h0, hni, n3, ⟨sd, hsd, hsx⟩, hop⟩ := id hG.1
  refine g_aload_n (pc := 0) d_MO_writeShop_0 rfl 0 rfl ?_
  refine g_iload_n (pc := 1) d_MO_writeShop_1 rfl 1 rfl ?_
  refine g_cV1 (pc := 2) (ci := 7) (As := [.int _]) d_MO_writeShop_2 rfl mv_MO_lacksShop st_MO_writeShop_284 rfl rfl (by decide) rfl rfl (Nat.le_of_ble_eq_true rfl) k_m (cm_MO_lacksShopN hM nd hG hv) ?_
  refine g_if_eq (pc := 5) (tgt := 10) d_MO_writeShop_5 (by decide) (fun c_5 => ?_) (fun c_5 => ?_)
  · exact absurd c_5 (by decide)
  · skip
    refine g_iconst (pc := 8) (v := 0) d_MO_writeShop_8 (by decide) ?_
    refine g_iret (pc := 9) d_MO_writeShop_9 rfl ?_
    first | exact ⟨rfl, rfl⟩ | (rw [u1_u1]; exact ⟨rfl, rfl⟩)
