theorem d_HS_daysUntilClosed_0 : decode (mC m_HS_daysUntilClosed) 0 = .ok (.aload_n 0, 1) := by decide +kernel
theorem d_HS_daysUntilClosed_1 : decode (mC m_HS_daysUntilClosed) 1 = .ok (.iload_n 1, 1) := by decide +kernel
theorem d_HS_daysUntilClosed_2 : decode (mC m_HS_daysUntilClosed) 2 = .ok (.invokevirtual 258, 3) := by decide +kernel
theorem d_HS_daysUntilClosed_5 : decode (mC m_HS_daysUntilClosed) 5 = .ok (.aload_n 0, 1) := by decide +kernel
theorem d_HS_daysUntilClosed_6 : decode (mC m_HS_daysUntilClosed) 6 = .ok (.getfield 24, 3) := by decide +kernel
theorem d_HS_daysUntilClosed_9 : decode (mC m_HS_daysUntilClosed) 9 = .ok (.aload_n 0, 1) := by decide +kernel
theorem d_HS_daysUntilClosed_10 : decode (mC m_HS_daysUntilClosed) 10 = .ok (.getfield 50, 3) := by decide +kernel
theorem d_HS_daysUntilClosed_13 : decode (mC m_HS_daysUntilClosed) 13 = .ok (.invokevirtual 92, 3) := by decide +kernel
theorem d_HS_daysUntilClosed_16 : decode (mC m_HS_daysUntilClosed) 16 = .ok (.aload_n 0, 1) := by decide +kernel
theorem d_HS_daysUntilClosed_17 : decode (mC m_HS_daysUntilClosed) 17 = .ok (.getfield 24, 3) := by decide +kernel
theorem d_HS_daysUntilClosed_20 : decode (mC m_HS_daysUntilClosed) 20 = .ok (.getfield 264, 3) := by decide +kernel
theorem d_HS_daysUntilClosed_23 : decode (mC m_HS_daysUntilClosed) 23 = .ok (.iload_n 1, 1) := by decide +kernel
theorem d_HS_daysUntilClosed_24 : decode (mC m_HS_daysUntilClosed) 24 = .ok (.aaload, 1) := by decide +kernel
theorem d_HS_daysUntilClosed_25 : decode (mC m_HS_daysUntilClosed) 25 = .ok (.astore_n 2, 1) := by decide +kernel
theorem d_HS_daysUntilClosed_26 : decode (mC m_HS_daysUntilClosed) 26 = .ok (.iconst 0, 1) := by decide +kernel
theorem d_HS_daysUntilClosed_27 : decode (mC m_HS_daysUntilClosed) 27 = .ok (.istore_n 3, 1) := by decide +kernel
theorem d_HS_daysUntilClosed_28 : decode (mC m_HS_daysUntilClosed) 28 = .ok (.iload_n 3, 1) := by decide +kernel
theorem d_HS_daysUntilClosed_29 : decode (mC m_HS_daysUntilClosed) 29 = .ok (.sipush 200, 3) := by decide +kernel
theorem d_HS_daysUntilClosed_32 : decode (mC m_HS_daysUntilClosed) 32 = .ok (.if_icmp .gt 27, 3) := by decide +kernel
theorem d_HS_daysUntilClosed_35 : decode (mC m_HS_daysUntilClosed) 35 = .ok (.aload_n 2, 1) := by decide +kernel
theorem d_HS_daysUntilClosed_36 : decode (mC m_HS_daysUntilClosed) 36 = .ok (.getfield 123, 3) := by decide +kernel
theorem d_HS_daysUntilClosed_39 : decode (mC m_HS_daysUntilClosed) 39 = .ok (.ifCond .ne 5, 3) := by decide +kernel
theorem d_HS_daysUntilClosed_42 : decode (mC m_HS_daysUntilClosed) 42 = .ok (.iload_n 3, 1) := by decide +kernel
theorem d_HS_daysUntilClosed_43 : decode (mC m_HS_daysUntilClosed) 43 = .ok (.ireturn, 1) := by decide +kernel
theorem d_HS_daysUntilClosed_44 : decode (mC m_HS_daysUntilClosed) 44 = .ok (.aload_n 0, 1) := by decide +kernel
theorem d_HS_daysUntilClosed_45 : decode (mC m_HS_daysUntilClosed) 45 = .ok (.getfield 24, 3) := by decide +kernel
theorem d_HS_daysUntilClosed_48 : decode (mC m_HS_daysUntilClosed) 48 = .ok (.iconst 1, 1) := by decide +kernel
theorem d_HS_daysUntilClosed_49 : decode (mC m_HS_daysUntilClosed) 49 = .ok (.invokevirtual 115, 3) := by decide +kernel
theorem d_HS_daysUntilClosed_52 : decode (mC m_HS_daysUntilClosed) 52 = .ok (.pop, 1) := by decide +kernel
theorem d_HS_daysUntilClosed_53 : decode (mC m_HS_daysUntilClosed) 53 = .ok (.iinc 3 1, 3) := by decide +kernel
theorem d_HS_daysUntilClosed_56 : decode (mC m_HS_daysUntilClosed) 56 = .ok (.goto (-28), 3) := by decide +kernel
theorem d_HS_daysUntilClosed_59 : decode (mC m_HS_daysUntilClosed) 59 = .ok (.iconst (-1), 1) := by decide +kernel
theorem d_HS_daysUntilClosed_60 : decode (mC m_HS_daysUntilClosed) 60 = .ok (.ireturn, 1) := by decide +kernel
theorem lp_HS_daysUntilClosed {E : En} {h : Hp} {x b nb nw sc ni U : Nat} {C9 : Bu} {i : Nat} (k_x : hK h x = 1) (r_x_2 : hR h x 2 = some nb) (r_x_3 : hR h x 3 = some b) (hN : BuOk h nb) (hB : BuOk h b) (hD : Dis h b nb) (hG : Gd (vB h nb) nw sc ni U) (hC9 : C9 = P_copy nw sc (vB h b) (vB h nb)) (hi : i < sc) (hU : U ≤ 1999999000) : ∀ (d k : Nat) (B1 : Bu), k + d = 201 → Gd B1 nw sc ni (U + k) → G E m_HS_daysUntilClosed 28 [(3, .int (nI k)), (2, .ref (sh h b i)), (0, .ref x), (1, .int (nI i))] [] (wB h b B1) 0 0 (fun v h1 => v = some (.int (Q_closed nw sc ni i d k B1)) ∧ ∃ F, h1 = wB h b F) noX := by
  have hG9 : Gd C9 nw sc ni U := by rw [hC9]; exact Gd_copy hG
  obtain ⟨hw9, hn9, hs9, hm9, -, -, -, -, hop9⟩ := id hG.1
  obtain ⟨hw, hn, hs, hm, h0, hni, n3, ⟨sd, hsd, hsx⟩, hop⟩ := id hG9.1
  intro d
  induction d with
  | zero =>
    intro k B1 hd hG1
    refine g_iload_n (pc := 28) d_HS_daysUntilClosed_28 rfl 0 rfl ?_
    refine g_sipush (pc := 29) (v := 200) d_HS_daysUntilClosed_29 (by decide) ?_
    refine g_icmp_gt (pc := 32) (tgt := 59) d_HS_daysUntilClosed_32 (by decide) (fun c_32 => ?_) (fun c_32 => ?_)
    · skip
      refine g_iconst (pc := 59) (v := (-1)) d_HS_daysUntilClosed_59 (by decide) ?_
      refine g_iret (pc := 60) d_HS_daysUntilClosed_60 rfl ?_
      exact ⟨rfl, _, rfl⟩
    · exact absurd ((nI_ltI (a := 200) (b := k) (by omega) (by omega)).mpr (by omega)) c_32
  | succ d ih =>
    intro k B1 hd hG1
    rw [Q_closed]
    refine g_iload_n (pc := 28) d_HS_daysUntilClosed_28 rfl 0 rfl ?_
    refine g_sipush (pc := 29) (v := 200) d_HS_daysUntilClosed_29 (by decide) ?_
    refine g_icmp_gt (pc := 32) (tgt := 59) d_HS_daysUntilClosed_32 (by decide) (fun c_32 => ?_) (fun c_32 => ?_)
    · exact absurd ((nI_ltI (a := 200) (b := k) (by omega) (by omega)).mp c_32) (by omega)
    · skip
      refine g_aload_n (pc := 35) d_HS_daysUntilClosed_35 rfl 1 rfl ?_
      refine g_sgI (pc := 36) (f := 12) rfl d_HS_daysUntilClosed_36 fl_HS_123 hB (by first | assumption | omega | decide) ?_
      refine g_if_ne (pc := 39) (tgt := 44) d_HS_daysUntilClosed_39 (by decide) (fun c_39 => ?_) (fun c_39 => ?_)
      · skip
        refine g_aload_n (pc := 44) d_HS_daysUntilClosed_44 rfl 2 rfl ?_
        refine g_getR (pc := 45) (ci := 0) (f := 3) (b := b) rfl r_x_3 d_HS_daysUntilClosed_45 fl_HS_24 (by decide) k_x ?_
        refine g_iconst (pc := 48) (v := 1) d_HS_daysUntilClosed_48 (by decide) ?_
        refine g_cV1 (pc := 49) (ci := 4) (As := [.int _]) d_HS_daysUntilClosed_49 rfl mv_BU_passMany st_HS_daysUntilClosed_115 rfl rfl (by decide) rfl rfl (Nat.le_of_ble_eq_true rfl) hB.1 (cb_passMany (days := 1) hB hG1.1 (by omega)) ?_
        refine g_pop (pc := 52) d_HS_daysUntilClosed_52 rfl ?_
        obtain ⟨x_1, hx_1⟩ : ∃ y : Int32, y = (nI k) + 1 := ⟨_, rfl⟩
        refine g_iinc (pc := 53) (w := 0) (v := x_1) (lv' := [(3, .int x_1), (2, .ref (sh h b i)), (0, .ref x), (1, .int (nI i))]) d_HS_daysUntilClosed_53 rfl (by rw [hx_1]; rfl) (by decide) rfl ?_
        refine g_goto (pc := 56) (tgt := 28) d_HS_daysUntilClosed_56 (by decide) ?_
        have e8 : x_1 = nI (k + 1) := by rw [hx_1]; exact nI_1 _
        clear hx_1
        subst e8
        rw [if_neg c_39]
        exact ih (k + 1) (P_day nw sc ni (0, B1)).2 (by omega) (Gd_day (U := U + k) hG1 (by omega))
      · skip
        refine g_iload_n (pc := 42) d_HS_daysUntilClosed_42 rfl 0 rfl ?_
        refine g_iret (pc := 43) d_HS_daysUntilClosed_43 rfl ?_
        rw [if_pos c_39]
        exact ⟨rfl, _, rfl⟩
set_option maxRecDepth 20000 in
theorem cs_HS_daysUntilClosed {E : En} {h : Hp} {x b nb nw sc ni U : Nat} {C9 : Bu} {i : Nat} (k_x : hK h x = 1) (r_x_2 : hR h x 2 = some nb) (r_x_3 : hR h x 3 = some b) (hN : BuOk h nb) (hB : BuOk h b) (hD : Dis h b nb) (hG : Gd (vB h nb) nw sc ni U) (hC9 : C9 = P_copy nw sc (vB h b) (vB h nb)) (hi : i < sc) (hU : U ≤ 1999999000) : CT E m_HS_daysUntilClosed [.ref x, .int (nI i)] h 0 0 (fun v h1 => v = some (.int (Q_closed nw sc ni i 201 0 C9)) ∧ ∃ F, h1 = wB h b F) noX := by
  refine ct_of rfl (by decide +kernel) (Nat.le_of_ble_eq_true rfl) ?_
  show G E m_HS_daysUntilClosed 0 [(0, .ref x), (1, .int (nI i))] [] h 0 0 _ noX
  have hG9 : Gd C9 nw sc ni U := by rw [hC9]; exact Gd_copy hG
  obtain ⟨hw9, hn9, hs9, hm9, -, -, -, -, hop9⟩ := id hG.1
  obtain ⟨hw, hn, hs, hm, h0, hni, n3, ⟨sd, hsd, hsx⟩, hop⟩ := id hG9.1
  refine g_aload_n (pc := 0) d_HS_daysUntilClosed_0 rfl 0 rfl ?_
  refine g_iload_n (pc := 1) d_HS_daysUntilClosed_1 rfl 1 rfl ?_
  refine g_cV0 (pc := 2) (ci := 0) (As := [.int _]) d_HS_daysUntilClosed_2 rfl mv_HS_requireShop st_HS_daysUntilClosed_258 rfl rfl (by decide) rfl rfl (Nat.le_of_ble_eq_true rfl) k_x (cs_noop (cs_HS_requireShop k_x r_x_2 hN hG hi) ) ?_
  refine g_aload_n (pc := 5) d_HS_daysUntilClosed_5 rfl 0 rfl ?_
  refine g_getR (pc := 6) (ci := 0) (f := 3) (b := b) rfl r_x_3 d_HS_daysUntilClosed_6 fl_HS_24 (by decide) k_x ?_
  refine g_aload_n (pc := 9) d_HS_daysUntilClosed_9 rfl 0 rfl ?_
  refine g_getR (pc := 10) (ci := 0) (f := 2) (b := nb) rfl r_x_2 d_HS_daysUntilClosed_10 fl_HS_50 (by decide) k_x ?_
  refine g_h (h' := wB h b (vB h b)) wB_v.symm ?_
  refine g_cV0 (pc := 13) (ci := 4) (As := [.ref _]) d_HS_daysUntilClosed_13 rfl mv_BU_copyFrom st_HS_daysUntilClosed_92 rfl rfl (by decide) rfl rfl (Nat.le_of_ble_eq_true rfl) hB.1 (cb_copyFrom hB hN hD hw9 hn9 hs9 hm9 hop9) ?_
  rw [← hC9]
  refine g_aload_n (pc := 16) d_HS_daysUntilClosed_16 rfl 0 rfl ?_
  refine g_getR (pc := 17) (ci := 0) (f := 3) (b := b) rfl r_x_3 d_HS_daysUntilClosed_17 fl_HS_24 (by decide) k_x ?_
  refine g_bgS (pc := 20) d_HS_daysUntilClosed_20 fl_HS_264 hB ?_
  refine g_iload_n (pc := 23) d_HS_daysUntilClosed_23 rfl 1 rfl ?_
  refine g_bsl (pc := 24) d_HS_daysUntilClosed_24 hB (by first | assumption | omega | decide) ?_
  refine g_astore_n (pc := 25) (lv' := [(2, .ref (sh h b i)), (0, .ref x), (1, .int (nI i))]) d_HS_daysUntilClosed_25 rfl (by decide) rfl ?_
  refine g_iconst (pc := 26) (v := 0) d_HS_daysUntilClosed_26 (by decide) ?_
  refine g_nameI (fun x_1 hx_1 => ?_)
  refine g_istore_n (pc := 27) (lv' := [(3, .int x_1), (2, .ref (sh h b i)), (0, .ref x), (1, .int (nI i))]) d_HS_daysUntilClosed_27 rfl (by decide) rfl ?_
  subst hx_1
  exact lp_HS_daysUntilClosed k_x r_x_2 r_x_3 hN hB hD hG hC9 hi hU 201 0 C9 rfl hG9
