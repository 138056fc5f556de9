/-! THE CLASS'S OWN METHODS: questions that try again and again -/
theorem d_HS_daysUntilFalse_0 : decode (mC m_HS_daysUntilFalse) 0 = .ok (.aload_n 0, 1) := by decide +kernel
theorem d_HS_daysUntilFalse_1 : decode (mC m_HS_daysUntilFalse) 1 = .ok (.iload_n 1, 1) := by decide +kernel
theorem d_HS_daysUntilFalse_2 : decode (mC m_HS_daysUntilFalse) 2 = .ok (.invokevirtual 258, 3) := by decide +kernel
theorem d_HS_daysUntilFalse_5 : decode (mC m_HS_daysUntilFalse) 5 = .ok (.aload_n 0, 1) := by decide +kernel
theorem d_HS_daysUntilFalse_6 : decode (mC m_HS_daysUntilFalse) 6 = .ok (.getfield 24, 3) := by decide +kernel
theorem d_HS_daysUntilFalse_9 : decode (mC m_HS_daysUntilFalse) 9 = .ok (.aload_n 0, 1) := by decide +kernel
theorem d_HS_daysUntilFalse_10 : decode (mC m_HS_daysUntilFalse) 10 = .ok (.getfield 50, 3) := by decide +kernel
theorem d_HS_daysUntilFalse_13 : decode (mC m_HS_daysUntilFalse) 13 = .ok (.invokevirtual 92, 3) := by decide +kernel
theorem d_HS_daysUntilFalse_16 : decode (mC m_HS_daysUntilFalse) 16 = .ok (.aload_n 0, 1) := by decide +kernel
theorem d_HS_daysUntilFalse_17 : decode (mC m_HS_daysUntilFalse) 17 = .ok (.getfield 24, 3) := by decide +kernel
theorem d_HS_daysUntilFalse_20 : decode (mC m_HS_daysUntilFalse) 20 = .ok (.getfield 264, 3) := by decide +kernel
theorem d_HS_daysUntilFalse_23 : decode (mC m_HS_daysUntilFalse) 23 = .ok (.iload_n 1, 1) := by decide +kernel
theorem d_HS_daysUntilFalse_24 : decode (mC m_HS_daysUntilFalse) 24 = .ok (.aaload, 1) := by decide +kernel
theorem d_HS_daysUntilFalse_25 : decode (mC m_HS_daysUntilFalse) 25 = .ok (.astore_n 2, 1) := by decide +kernel
theorem d_HS_daysUntilFalse_26 : decode (mC m_HS_daysUntilFalse) 26 = .ok (.iconst 0, 1) := by decide +kernel
theorem d_HS_daysUntilFalse_27 : decode (mC m_HS_daysUntilFalse) 27 = .ok (.istore_n 3, 1) := by decide +kernel
theorem d_HS_daysUntilFalse_28 : decode (mC m_HS_daysUntilFalse) 28 = .ok (.iload_n 3, 1) := by decide +kernel
theorem d_HS_daysUntilFalse_29 : decode (mC m_HS_daysUntilFalse) 29 = .ok (.sipush 1000, 3) := by decide +kernel
theorem d_HS_daysUntilFalse_32 : decode (mC m_HS_daysUntilFalse) 32 = .ok (.if_icmp .gt 26, 3) := by decide +kernel
theorem d_HS_daysUntilFalse_35 : decode (mC m_HS_daysUntilFalse) 35 = .ok (.aload_n 0, 1) := by decide +kernel
theorem d_HS_daysUntilFalse_36 : decode (mC m_HS_daysUntilFalse) 36 = .ok (.getfield 24, 3) := by decide +kernel
theorem d_HS_daysUntilFalse_39 : decode (mC m_HS_daysUntilFalse) 39 = .ok (.aload_n 2, 1) := by decide +kernel
theorem d_HS_daysUntilFalse_40 : decode (mC m_HS_daysUntilFalse) 40 = .ok (.invokevirtual 223, 3) := by decide +kernel
theorem d_HS_daysUntilFalse_43 : decode (mC m_HS_daysUntilFalse) 43 = .ok (.ifCond .ne 5, 3) := by decide +kernel
theorem d_HS_daysUntilFalse_46 : decode (mC m_HS_daysUntilFalse) 46 = .ok (.iload_n 3, 1) := by decide +kernel
theorem d_HS_daysUntilFalse_47 : decode (mC m_HS_daysUntilFalse) 47 = .ok (.ireturn, 1) := by decide +kernel
theorem d_HS_daysUntilFalse_48 : decode (mC m_HS_daysUntilFalse) 48 = .ok (.aload_n 2, 1) := by decide +kernel
theorem d_HS_daysUntilFalse_49 : decode (mC m_HS_daysUntilFalse) 49 = .ok (.invokevirtual 280, 3) := by decide +kernel
theorem d_HS_daysUntilFalse_52 : decode (mC m_HS_daysUntilFalse) 52 = .ok (.iinc 3 1, 3) := by decide +kernel
theorem d_HS_daysUntilFalse_55 : decode (mC m_HS_daysUntilFalse) 55 = .ok (.goto (-27), 3) := by decide +kernel
theorem d_HS_daysUntilFalse_58 : decode (mC m_HS_daysUntilFalse) 58 = .ok (.iconst (-1), 1) := by decide +kernel
theorem d_HS_daysUntilFalse_59 : decode (mC m_HS_daysUntilFalse) 59 = .ok (.ireturn, 1) := by decide +kernel
theorem lp_HS_daysUntilFalse {E : En} {h : Hp} {x b nb nw sc ni U : Nat} {C9 : Bu} {i : Nat} (k_x : hK h x = 1) (r_x_2 : hR h x 2 = some nb) (r_x_3 : hR h x 3 = some b) (hN : BuOk h nb) (hB : BuOk h b) (hD : Dis h b nb) (hG : Gd (vB h nb) nw sc ni U) (hC9 : C9 = P_copy nw sc (vB h b) (vB h nb)) (hi : i < sc) : ∀ (d k : Nat) (s : Nat → Int32), k + d = 1001 → G E m_HS_daysUntilFalse 28 [(3, .int (nI k)), (2, .ref (sh h b i)), (0, .ref x), (1, .int (nI i))] [] (wB h b (sS C9 i s)) 0 0 (fun v h1 => v = some (.int (Q_false C9.1 C9.2.1 nw d k s)) ∧ ∃ F, h1 = wB h b F) noX := by
  have hG9 : Gd C9 nw sc ni U := by rw [hC9]; exact Gd_copy hG
  obtain ⟨hw9, hn9, hs9, hm9, -, -, -, -, hop9⟩ := id hG.1
  obtain ⟨hw, hn, hs, hm, h0, hni, n3, ⟨sd, hsd, hsx⟩, hop⟩ := id hG9.1
  intro d
  induction d with
  | zero =>
    intro k s hd
    refine g_iload_n (pc := 28) d_HS_daysUntilFalse_28 rfl 0 rfl ?_
    refine g_sipush (pc := 29) (v := 1000) d_HS_daysUntilFalse_29 (by decide) ?_
    refine g_icmp_gt (pc := 32) (tgt := 58) d_HS_daysUntilFalse_32 (by decide) (fun c_32 => ?_) (fun c_32 => ?_)
    · skip
      refine g_iconst (pc := 58) (v := (-1)) d_HS_daysUntilFalse_58 (by decide) ?_
      refine g_iret (pc := 59) d_HS_daysUntilFalse_59 rfl ?_
      exact ⟨rfl, _, rfl⟩
    · exact absurd ((nI_ltI (a := 1000) (b := k) (by omega) (by omega)).mpr (by omega)) c_32
  | succ d ih =>
    intro k s hd
    rw [Q_false]
    refine g_iload_n (pc := 28) d_HS_daysUntilFalse_28 rfl 0 rfl ?_
    refine g_sipush (pc := 29) (v := 1000) d_HS_daysUntilFalse_29 (by decide) ?_
    refine g_icmp_gt (pc := 32) (tgt := 58) d_HS_daysUntilFalse_32 (by decide) (fun c_32 => ?_) (fun c_32 => ?_)
    · exact absurd ((nI_ltI (a := 1000) (b := k) (by omega) (by omega)).mp c_32) (by omega)
    · skip
      refine g_aload_n (pc := 35) d_HS_daysUntilFalse_35 rfl 2 rfl ?_
      refine g_getR (pc := 36) (ci := 0) (f := 3) (b := b) rfl r_x_3 d_HS_daysUntilFalse_36 fl_HS_24 (by decide) k_x ?_
      refine g_aload_n (pc := 39) d_HS_daysUntilFalse_39 rfl 1 rfl ?_
      refine g_cV1 (pc := 40) (ci := 4) (As := [.ref _]) d_HS_daysUntilFalse_40 rfl mv_BU_hasTrueScale st_HS_daysUntilFalse_223 rfl rfl (by decide) rfl rfl (Nat.le_of_ble_eq_true rfl) hB.1 (cb_hasTrueScale (B := sS C9 i s) hB (by omega) hw hn) ?_
      rw [sS_i]
      show G E _ _ _ [.int (bI (decide (M_tot C9.1 C9.2.1 s nw = 0)))] _ _ _ _ _
      refine g_if_ne (pc := 43) (tgt := 48) d_HS_daysUntilFalse_43 (by decide) (fun c_43 => ?_) (fun c_43 => ?_)
      · skip
        have y1 : M_tot C9.1 C9.2.1 s nw = 0 := of_decide_eq_true (bI_n0 c_43)
        refine g_aload_n (pc := 48) d_HS_daysUntilFalse_48 rfl 1 rfl ?_
        refine g_cV0 (pc := 49) (ci := 5) (As := []) d_HS_daysUntilFalse_49 rfl mv_SH_driftOneDay st_HS_daysUntilFalse_280 rfl rfl (by decide) rfl rfl (Nat.le_of_ble_eq_true rfl) (hB.sk (by first | assumption | omega | decide)) (cb_driftOneDay hB (by first | assumption | omega | decide)) ?_
        obtain ⟨x_1, hx_1⟩ : ∃ y : Int32, y = (nI k) + 1 := ⟨_, rfl⟩
        refine g_iinc (pc := 52) (w := 0) (v := x_1) (lv' := [(3, .int x_1), (2, .ref (sh h b i)), (0, .ref x), (1, .int (nI i))]) d_HS_daysUntilFalse_52 rfl (by rw [hx_1]; rfl) (by decide) rfl ?_
        refine g_goto (pc := 55) (tgt := 28) d_HS_daysUntilFalse_55 (by decide) ?_
        have e8 : x_1 = nI (k + 1) := by rw [hx_1]; exact nI_1 _
        clear hx_1
        subst e8
        rw [if_pos y1, sS_sS, sS_i]
        exact ih (k + 1) (M_drift s) (by omega)
      · skip
        have y1 : ¬ M_tot C9.1 C9.2.1 s nw = 0 := of_decide_eq_false (bI_0.mp c_43)
        refine g_iload_n (pc := 46) d_HS_daysUntilFalse_46 rfl 0 rfl ?_
        refine g_iret (pc := 47) d_HS_daysUntilFalse_47 rfl ?_
        rw [if_neg y1]
        exact ⟨rfl, _, rfl⟩
set_option maxRecDepth 20000 in
theorem cs_HS_daysUntilFalse {E : En} {h : Hp} {x b nb nw sc ni U : Nat} {C9 : Bu} {i : Nat} (k_x : hK h x = 1) (r_x_2 : hR h x 2 = some nb) (r_x_3 : hR h x 3 = some b) (hN : BuOk h nb) (hB : BuOk h b) (hD : Dis h b nb) (hG : Gd (vB h nb) nw sc ni U) (hC9 : C9 = P_copy nw sc (vB h b) (vB h nb)) (hi : i < sc) : CT E m_HS_daysUntilFalse [.ref x, .int (nI i)] h 0 0 (fun v h1 => v = some (.int (Q_false C9.1 C9.2.1 nw 1001 0 (C9.2.2 i))) ∧ ∃ F, h1 = wB h b F) noX := by
  refine ct_of rfl (by decide +kernel) (Nat.le_of_ble_eq_true rfl) ?_
  show G E m_HS_daysUntilFalse 0 [(0, .ref x), (1, .int (nI i))] [] h 0 0 _ noX
  have hG9 : Gd C9 nw sc ni U := by rw [hC9]; exact Gd_copy hG
  obtain ⟨hw9, hn9, hs9, hm9, -, -, -, -, hop9⟩ := id hG.1
  obtain ⟨hw, hn, hs, hm, h0, hni, n3, ⟨sd, hsd, hsx⟩, hop⟩ := id hG9.1
  refine g_aload_n (pc := 0) d_HS_daysUntilFalse_0 rfl 0 rfl ?_
  refine g_iload_n (pc := 1) d_HS_daysUntilFalse_1 rfl 1 rfl ?_
  refine g_cV0 (pc := 2) (ci := 0) (As := [.int _]) d_HS_daysUntilFalse_2 rfl mv_HS_requireShop st_HS_daysUntilFalse_258 rfl rfl (by decide) rfl rfl (Nat.le_of_ble_eq_true rfl) k_x (cs_noop (cs_HS_requireShop k_x r_x_2 hN hG hi) ) ?_
  refine g_aload_n (pc := 5) d_HS_daysUntilFalse_5 rfl 0 rfl ?_
  refine g_getR (pc := 6) (ci := 0) (f := 3) (b := b) rfl r_x_3 d_HS_daysUntilFalse_6 fl_HS_24 (by decide) k_x ?_
  refine g_aload_n (pc := 9) d_HS_daysUntilFalse_9 rfl 0 rfl ?_
  refine g_getR (pc := 10) (ci := 0) (f := 2) (b := nb) rfl r_x_2 d_HS_daysUntilFalse_10 fl_HS_50 (by decide) k_x ?_
  refine g_h (h' := wB h b (vB h b)) wB_v.symm ?_
  refine g_cV0 (pc := 13) (ci := 4) (As := [.ref _]) d_HS_daysUntilFalse_13 rfl mv_BU_copyFrom st_HS_daysUntilFalse_92 rfl rfl (by decide) rfl rfl (Nat.le_of_ble_eq_true rfl) hB.1 (cb_copyFrom hB hN hD hw9 hn9 hs9 hm9 hop9) ?_
  rw [← hC9]
  refine g_aload_n (pc := 16) d_HS_daysUntilFalse_16 rfl 0 rfl ?_
  refine g_getR (pc := 17) (ci := 0) (f := 3) (b := b) rfl r_x_3 d_HS_daysUntilFalse_17 fl_HS_24 (by decide) k_x ?_
  refine g_bgS (pc := 20) d_HS_daysUntilFalse_20 fl_HS_264 hB ?_
  refine g_iload_n (pc := 23) d_HS_daysUntilFalse_23 rfl 1 rfl ?_
  refine g_bsl (pc := 24) d_HS_daysUntilFalse_24 hB (by first | assumption | omega | decide) ?_
  refine g_astore_n (pc := 25) (lv' := [(2, .ref (sh h b i)), (0, .ref x), (1, .int (nI i))]) d_HS_daysUntilFalse_25 rfl (by decide) rfl ?_
  refine g_iconst (pc := 26) (v := 0) d_HS_daysUntilFalse_26 (by decide) ?_
  refine g_nameI (fun x_1 hx_1 => ?_)
  refine g_istore_n (pc := 27) (lv' := [(3, .int x_1), (2, .ref (sh h b i)), (0, .ref x), (1, .int (nI i))]) d_HS_daysUntilFalse_27 rfl (by decide) rfl ?_
  subst hx_1
  refine g_h (h' := wB h b (sS C9 i (C9.2.2 i))) (by rw [sS_self]) ?_
  exact lp_HS_daysUntilFalse k_x r_x_2 r_x_3 hN hB hD hG hC9 hi 1001 0 (C9.2.2 i) rfl
set_option maxRecDepth 20000 in
theorem ce_HS_daysUntilFalseN {E : En} {h : Hp} {x b nw sc ni U : Nat} {B : Bu} {v : Int32} (hE : (eL E).stackTraces = false) (k_x : hK h x = 1) (r_x_2 : hR h x 2 = some b) (hB : BuOk h b) (hG : Gd B nw sc ni U) (hv : v < 0 ∨ nI sc ≤ v) : CE E m_HS_daysUntilFalse [.ref x, .int v] (wB h b B) "java/lang/IndexOutOfBoundsException" := by
  refine ct_of rfl (by decide +kernel) (Nat.le_of_ble_eq_true rfl) ?_
  show G E m_HS_daysUntilFalse 0 [(0, .ref x), (1, .int v)] [] (wB h b B) 1 6 _ _
  obtain ⟨hw, hn, hs, hm, h0, hni, n3, ⟨sd, hsd, hsx⟩, hop⟩ := id hG.1
  refine g_aload_n (pc := 0) d_HS_daysUntilFalse_0 rfl 0 rfl ?_
  refine g_iload_n (pc := 1) d_HS_daysUntilFalse_1 rfl 1 rfl ?_
  exact g_eV (k := 0) (n := 0) (pc := 2) (ci := 0) (As := [.int _]) d_HS_daysUntilFalse_2 rfl mv_HS_requireShop st_HS_daysUntilFalse_258 rfl rfl (by decide) k_x rfl rfl (Nat.le_of_ble_eq_true rfl) (ce_HS_requireShop hE k_x r_x_2 hB hG hv) ⟨rfl, rfl⟩
theorem d_HS_daysUntilClosed_0 : decode (mC m_HS_daysUntilClosed) 0 = .ok (.aload_n 0, 1) := by decide +kernel
theorem d_HS_daysUntilClosed_1 : decode (mC m_HS_daysUntilClosed) 1 = .ok (.iload_n 1, 1) := by decide +kernel
theorem d_HS_daysUntilClosed_2 : decode (mC m_HS_daysUntilClosed) 2 = .ok (.invokevirtual 258, 3) := by decide +kernel
theorem d_HS_daysUntilClosed_5 : decode (mC m_HS_daysUntilClosed) 5 = .ok (.aload_n 0, 1) := by decide +kernel
theorem d_HS_daysUntilClosed_6 : decode (mC m_HS_daysUntilClosed) 6 = .ok (.getfield 24, 3) := by decide +kernel
theorem d_HS_daysUntilClosed_9 : decode (mC m_HS_daysUntilClosed) 9 = .ok (.aload_n 0, 1) := by decide +kernel
theorem d_HS_daysUntilClosed_10 : decode (mC m_HS_daysUntilClosed) 10 = .ok (.getfield 50, 3) := by decide +kernel
theorem d_HS_daysUntilClosed_13 : decode (mC m_HS_daysUntilClosed) 13 = .ok (.invokevirtual 92, 3) := by decide +kernel
theorem d_HS_daysUntilClosed_16 : decode (mC m_HS_daysUntilClosed) 16 = .ok (.aload_n 0, 1) := by decide +kernel
theorem d_HS_daysUntilClosed_17 : decode (mC m_HS_daysUntilClosed) 17 = .ok (.getfield 24, 3) := by decide +kernel
theorem d_HS_daysUntilClosed_20 : decode (mC m_HS_daysUntilClosed) 20 = .ok (.getfield 264, 3) := by decide +kernel
theorem d_HS_daysUntilClosed_23 : decode (mC m_HS_daysUntilClosed) 23 = .ok (.iload_n 1, 1) := by decide +kernel
theorem d_HS_daysUntilClosed_24 : decode (mC m_HS_daysUntilClosed) 24 = .ok (.aaload, 1) := by decide +kernel
theorem d_HS_daysUntilClosed_25 : decode (mC m_HS_daysUntilClosed) 25 = .ok (.astore_n 2, 1) := by decide +kernel
theorem d_HS_daysUntilClosed_26 : decode (mC m_HS_daysUntilClosed) 26 = .ok (.iconst 0, 1) := by decide +kernel
theorem d_HS_daysUntilClosed_27 : decode (mC m_HS_daysUntilClosed) 27 = .ok (.istore_n 3, 1) := by decide +kernel
theorem d_HS_daysUntilClosed_28 : decode (mC m_HS_daysUntilClosed) 28 = .ok (.iload_n 3, 1) := by decide +kernel
theorem d_HS_daysUntilClosed_29 : decode (mC m_HS_daysUntilClosed) 29 = .ok (.sipush 200, 3) := by decide +kernel
theorem d_HS_daysUntilClosed_32 : decode (mC m_HS_daysUntilClosed) 32 = .ok (.if_icmp .gt 27, 3) := by decide +kernel
theorem d_HS_daysUntilClosed_35 : decode (mC m_HS_daysUntilClosed) 35 = .ok (.aload_n 2, 1) := by decide +kernel
theorem d_HS_daysUntilClosed_36 : decode (mC m_HS_daysUntilClosed) 36 = .ok (.getfield 123, 3) := by decide +kernel
theorem d_HS_daysUntilClosed_39 : decode (mC m_HS_daysUntilClosed) 39 = .ok (.ifCond .ne 5, 3) := by decide +kernel
theorem d_HS_daysUntilClosed_42 : decode (mC m_HS_daysUntilClosed) 42 = .ok (.iload_n 3, 1) := by decide +kernel
theorem d_HS_daysUntilClosed_43 : decode (mC m_HS_daysUntilClosed) 43 = .ok (.ireturn, 1) := by decide +kernel
theorem d_HS_daysUntilClosed_44 : decode (mC m_HS_daysUntilClosed) 44 = .ok (.aload_n 0, 1) := by decide +kernel
theorem d_HS_daysUntilClosed_45 : decode (mC m_HS_daysUntilClosed) 45 = .ok (.getfield 24, 3) := by decide +kernel
theorem d_HS_daysUntilClosed_48 : decode (mC m_HS_daysUntilClosed) 48 = .ok (.iconst 1, 1) := by decide +kernel
theorem d_HS_daysUntilClosed_49 : decode (mC m_HS_daysUntilClosed) 49 = .ok (.invokevirtual 115, 3) := by decide +kernel
theorem d_HS_daysUntilClosed_52 : decode (mC m_HS_daysUntilClosed) 52 = .ok (.pop, 1) := by decide +kernel
theorem d_HS_daysUntilClosed_53 : decode (mC m_HS_daysUntilClosed) 53 = .ok (.iinc 3 1, 3) := by decide +kernel
theorem d_HS_daysUntilClosed_56 : decode (mC m_HS_daysUntilClosed) 56 = .ok (.goto (-28), 3) := by decide +kernel
theorem d_HS_daysUntilClosed_59 : decode (mC m_HS_daysUntilClosed) 59 = .ok (.iconst (-1), 1) := by decide +kernel
theorem d_HS_daysUntilClosed_60 : decode (mC m_HS_daysUntilClosed) 60 = .ok (.ireturn, 1) := by decide +kernel
theorem lp_HS_daysUntilClosed {E : En} {h : Hp} {x b nb nw sc ni U : Nat} {C9 : Bu} {i : Nat} (k_x : hK h x = 1) (r_x_2 : hR h x 2 = some nb) (r_x_3 : hR h x 3 = some b) (hN : BuOk h nb) (hB : BuOk h b) (hD : Dis h b nb) (hG : Gd (vB h nb) nw sc ni U) (hC9 : C9 = P_copy nw sc (vB h b) (vB h nb)) (hi : i < sc) (hU : U ≤ 1999999000) : ∀ (d k : Nat) (B1 : Bu), k + d = 201 → Gd B1 nw sc ni (U + k) → G E m_HS_daysUntilClosed 28 [(3, .int (nI k)), (2, .ref (sh h b i)), (0, .ref x), (1, .int (nI i))] [] (wB h b B1) 0 0 (fun v h1 => v = some (.int (Q_closed nw sc ni i d k B1)) ∧ ∃ F, h1 = wB h b F) noX := by
  have hG9 : Gd C9 nw sc ni U := by rw [hC9]; exact Gd_copy hG
  obtain ⟨hw9, hn9, hs9, hm9, -, -, -, -, hop9⟩ := id hG.1
  obtain ⟨hw, hn, hs, hm, h0, hni, n3, ⟨sd, hsd, hsx⟩, hop⟩ := id hG9.1
  intro d
  induction d with
  | zero =>
    intro k B1 hd hG1
    refine g_iload_n (pc := 28) d_HS_daysUntilClosed_28 rfl 0 rfl ?_
    refine g_sipush (pc := 29) (v := 200) d_HS_daysUntilClosed_29 (by decide) ?_
    refine g_icmp_gt (pc := 32) (tgt := 59) d_HS_daysUntilClosed_32 (by decide) (fun c_32 => ?_) (fun c_32 => ?_)
    · skip
      refine g_iconst (pc := 59) (v := (-1)) d_HS_daysUntilClosed_59 (by decide) ?_
      refine g_iret (pc := 60) d_HS_daysUntilClosed_60 rfl ?_
      exact ⟨rfl, _, rfl⟩
    · exact absurd ((nI_ltI (a := 200) (b := k) (by omega) (by omega)).mpr (by omega)) c_32
  | succ d ih =>
    intro k B1 hd hG1
    rw [Q_closed]
    refine g_iload_n (pc := 28) d_HS_daysUntilClosed_28 rfl 0 rfl ?_
    refine g_sipush (pc := 29) (v := 200) d_HS_daysUntilClosed_29 (by decide) ?_
    refine g_icmp_gt (pc := 32) (tgt := 59) d_HS_daysUntilClosed_32 (by decide) (fun c_32 => ?_) (fun c_32 => ?_)
    · exact absurd ((nI_ltI (a := 200) (b := k) (by omega) (by omega)).mp c_32) (by omega)
    · skip
      refine g_aload_n (pc := 35) d_HS_daysUntilClosed_35 rfl 1 rfl ?_
      refine g_sgI (pc := 36) (f := 12) rfl d_HS_daysUntilClosed_36 fl_HS_123 hB (by first | assumption | omega | decide) ?_
      refine g_if_ne (pc := 39) (tgt := 44) d_HS_daysUntilClosed_39 (by decide) (fun c_39 => ?_) (fun c_39 => ?_)
      · skip
        refine g_aload_n (pc := 44) d_HS_daysUntilClosed_44 rfl 2 rfl ?_
        refine g_getR (pc := 45) (ci := 0) (f := 3) (b := b) rfl r_x_3 d_HS_daysUntilClosed_45 fl_HS_24 (by decide) k_x ?_
        refine g_iconst (pc := 48) (v := 1) d_HS_daysUntilClosed_48 (by decide) ?_
        refine g_cV1 (pc := 49) (ci := 4) (As := [.int _]) d_HS_daysUntilClosed_49 rfl mv_BU_passMany st_HS_daysUntilClosed_115 rfl rfl (by decide) rfl rfl (Nat.le_of_ble_eq_true rfl) hB.1 (cb_passMany (days := 1) hB hG1.1 (by omega)) ?_
        refine g_pop (pc := 52) d_HS_daysUntilClosed_52 rfl ?_
        obtain ⟨x_1, hx_1⟩ : ∃ y : Int32, y = (nI k) + 1 := ⟨_, rfl⟩
        refine g_iinc (pc := 53) (w := 0) (v := x_1) (lv' := [(3, .int x_1), (2, .ref (sh h b i)), (0, .ref x), (1, .int (nI i))]) d_HS_daysUntilClosed_53 rfl (by rw [hx_1]; rfl) (by decide) rfl ?_
        refine g_goto (pc := 56) (tgt := 28) d_HS_daysUntilClosed_56 (by decide) ?_
        have e8 : x_1 = nI (k + 1) := by rw [hx_1]; exact nI_1 _
        clear hx_1
        subst e8
        rw [if_neg c_39]
        exact ih (k + 1) (P_day nw sc ni (0, B1)).2 (by omega) (Gd_day (U := U + k) hG1 (by omega))
      · skip
        refine g_iload_n (pc := 42) d_HS_daysUntilClosed_42 rfl 0 rfl ?_
        refine g_iret (pc := 43) d_HS_daysUntilClosed_43 rfl ?_
        rw [if_pos c_39]
        exact ⟨rfl, _, rfl⟩
set_option maxRecDepth 20000 in
theorem cs_HS_daysUntilClosed {E : En} {h : Hp} {x b nb nw sc ni U : Nat} {C9 : Bu} {i : Nat} (k_x : hK h x = 1) (r_x_2 : hR h x 2 = some nb) (r_x_3 : hR h x 3 = some b) (hN : BuOk h nb) (hB : BuOk h b) (hD : Dis h b nb) (hG : Gd (vB h nb) nw sc ni U) (hC9 : C9 = P_copy nw sc (vB h b) (vB h nb)) (hi : i < sc) (hU : U ≤ 1999999000) : CT E m_HS_daysUntilClosed [.ref x, .int (nI i)] h 0 0 (fun v h1 => v = some (.int (Q_closed nw sc ni i 201 0 C9)) ∧ ∃ F, h1 = wB h b F) noX := by
  refine ct_of rfl (by decide +kernel) (Nat.le_of_ble_eq_true rfl) ?_
  show G E m_HS_daysUntilClosed 0 [(0, .ref x), (1, .int (nI i))] [] h 0 0 _ noX
  have hG9 : Gd C9 nw sc ni U := by rw [hC9]; exact Gd_copy hG
  obtain ⟨hw9, hn9, hs9, hm9, -, -, -, -, hop9⟩ := id hG.1
  obtain ⟨hw, hn, hs, hm, h0, hni, n3, ⟨sd, hsd, hsx⟩, hop⟩ := id hG9.1
  refine g_aload_n (pc := 0) d_HS_daysUntilClosed_0 rfl 0 rfl ?_
  refine g_iload_n (pc := 1) d_HS_daysUntilClosed_1 rfl 1 rfl ?_
  refine g_cV0 (pc := 2) (ci := 0) (As := [.int _]) d_HS_daysUntilClosed_2 rfl mv_HS_requireShop st_HS_daysUntilClosed_258 rfl rfl (by decide) rfl rfl (Nat.le_of_ble_eq_true rfl) k_x (cs_noop (cs_HS_requireShop k_x r_x_2 hN hG hi) ) ?_
  refine g_aload_n (pc := 5) d_HS_daysUntilClosed_5 rfl 0 rfl ?_
  refine g_getR (pc := 6) (ci := 0) (f := 3) (b := b) rfl r_x_3 d_HS_daysUntilClosed_6 fl_HS_24 (by decide) k_x ?_
  refine g_aload_n (pc := 9) d_HS_daysUntilClosed_9 rfl 0 rfl ?_
  refine g_getR (pc := 10) (ci := 0) (f := 2) (b := nb) rfl r_x_2 d_HS_daysUntilClosed_10 fl_HS_50 (by decide) k_x ?_
  refine g_h (h' := wB h b (vB h b)) wB_v.symm ?_
  refine g_cV0 (pc := 13) (ci := 4) (As := [.ref _]) d_HS_daysUntilClosed_13 rfl mv_BU_copyFrom st_HS_daysUntilClosed_92 rfl rfl (by decide) rfl rfl (Nat.le_of_ble_eq_true rfl) hB.1 (cb_copyFrom hB hN hD hw9 hn9 hs9 hm9 hop9) ?_
  rw [← hC9]
  refine g_aload_n (pc := 16) d_HS_daysUntilClosed_16 rfl 0 rfl ?_
  refine g_getR (pc := 17) (ci := 0) (f := 3) (b := b) rfl r_x_3 d_HS_daysUntilClosed_17 fl_HS_24 (by decide) k_x ?_
  refine g_bgS (pc := 20) d_HS_daysUntilClosed_20 fl_HS_264 hB ?_
  refine g_iload_n (pc := 23) d_HS_daysUntilClosed_23 rfl 1 rfl ?_
  refine g_bsl (pc := 24) d_HS_daysUntilClosed_24 hB (by first | assumption | omega | decide) ?_
  refine g_astore_n (pc := 25) (lv' := [(2, .ref (sh h b i)), (0, .ref x), (1, .int (nI i))]) d_HS_daysUntilClosed_25 rfl (by decide) rfl ?_
  refine g_iconst (pc := 26) (v := 0) d_HS_daysUntilClosed_26 (by decide) ?_
  refine g_nameI (fun x_1 hx_1 => ?_)
  refine g_istore_n (pc := 27) (lv' := [(3, .int x_1), (2, .ref (sh h b i)), (0, .ref x), (1, .int (nI i))]) d_HS_daysUntilClosed_27 rfl (by decide) rfl ?_
  subst hx_1
  exact lp_HS_daysUntilClosed k_x r_x_2 r_x_3 hN hB hD hG hC9 hi hU 201 0 C9 rfl hG9
set_option maxRecDepth 20000 in
theorem ce_HS_daysUntilClosedN {E : En} {h : Hp} {x b nw sc ni U : Nat} {B : Bu} {v : Int32} (hE : (eL E).stackTraces = false) (k_x : hK h x = 1) (r_x_2 : hR h x 2 = some b) (hB : BuOk h b) (hG : Gd B nw sc ni U) (hv : v < 0 ∨ nI sc ≤ v) : CE E m_HS_daysUntilClosed [.ref x, .int v] (wB h b B) "java/lang/IndexOutOfBoundsException" := by
  refine ct_of rfl (by decide +kernel) (Nat.le_of_ble_eq_true rfl) ?_
  show G E m_HS_daysUntilClosed 0 [(0, .ref x), (1, .int v)] [] (wB h b B) 1 6 _ _
  obtain ⟨hw, hn, hs, hm, h0, hni, n3, ⟨sd, hsd, hsx⟩, hop⟩ := id hG.1
  refine g_aload_n (pc := 0) d_HS_daysUntilClosed_0 rfl 0 rfl ?_
  refine g_iload_n (pc := 1) d_HS_daysUntilClosed_1 rfl 1 rfl ?_
  exact g_eV (k := 0) (n := 0) (pc := 2) (ci := 0) (As := [.int _]) d_HS_daysUntilClosed_2 rfl mv_HS_requireShop st_HS_daysUntilClosed_258 rfl rfl (by decide) k_x rfl rfl (Nat.le_of_ble_eq_true rfl) (ce_HS_requireShop hE k_x r_x_2 hB hG hv) ⟨rfl, rfl⟩
theorem d_HS_bestThumb_0 : decode (mC m_HS_bestThumb) 0 = .ok (.aload_n 0, 1) := by decide +kernel
theorem d_HS_bestThumb_1 : decode (mC m_HS_bestThumb) 1 = .ok (.iload_n 1, 1) := by decide +kernel
theorem d_HS_bestThumb_2 : decode (mC m_HS_bestThumb) 2 = .ok (.invokevirtual 258, 3) := by decide +kernel
theorem d_HS_bestThumb_5 : decode (mC m_HS_bestThumb) 5 = .ok (.iload_n 2, 1) := by decide +kernel
theorem d_HS_bestThumb_6 : decode (mC m_HS_bestThumb) 6 = .ok (.iconst 1, 1) := by decide +kernel
theorem d_HS_bestThumb_7 : decode (mC m_HS_bestThumb) 7 = .ok (.bipush 100, 2) := by decide +kernel
theorem d_HS_bestThumb_9 : decode (mC m_HS_bestThumb) 9 = .ok (.invokestatic 70, 3) := by decide +kernel
theorem d_HS_bestThumb_12 : decode (mC m_HS_bestThumb) 12 = .ok (.iconst 0, 1) := by decide +kernel
theorem d_HS_bestThumb_13 : decode (mC m_HS_bestThumb) 13 = .ok (.istore_n 3, 1) := by decide +kernel
theorem d_HS_bestThumb_14 : decode (mC m_HS_bestThumb) 14 = .ok (.iconst 0, 1) := by decide +kernel
theorem d_HS_bestThumb_15 : decode (mC m_HS_bestThumb) 15 = .ok (.istore 4, 2) := by decide +kernel
theorem d_HS_bestThumb_17 : decode (mC m_HS_bestThumb) 17 = .ok (.iconst 0, 1) := by decide +kernel
theorem d_HS_bestThumb_18 : decode (mC m_HS_bestThumb) 18 = .ok (.istore 5, 2) := by decide +kernel
theorem d_HS_bestThumb_20 : decode (mC m_HS_bestThumb) 20 = .ok (.iload 5, 2) := by decide +kernel
theorem d_HS_bestThumb_22 : decode (mC m_HS_bestThumb) 22 = .ok (.bipush 100, 2) := by decide +kernel
theorem d_HS_bestThumb_24 : decode (mC m_HS_bestThumb) 24 = .ok (.if_icmp .gt 76, 3) := by decide +kernel
theorem d_HS_bestThumb_27 : decode (mC m_HS_bestThumb) 27 = .ok (.aload_n 0, 1) := by decide +kernel
theorem d_HS_bestThumb_28 : decode (mC m_HS_bestThumb) 28 = .ok (.getfield 24, 3) := by decide +kernel
theorem d_HS_bestThumb_31 : decode (mC m_HS_bestThumb) 31 = .ok (.aload_n 0, 1) := by decide +kernel
theorem d_HS_bestThumb_32 : decode (mC m_HS_bestThumb) 32 = .ok (.getfield 50, 3) := by decide +kernel
theorem d_HS_bestThumb_35 : decode (mC m_HS_bestThumb) 35 = .ok (.invokevirtual 92, 3) := by decide +kernel
theorem d_HS_bestThumb_38 : decode (mC m_HS_bestThumb) 38 = .ok (.aload_n 0, 1) := by decide +kernel
theorem d_HS_bestThumb_39 : decode (mC m_HS_bestThumb) 39 = .ok (.getfield 24, 3) := by decide +kernel
theorem d_HS_bestThumb_42 : decode (mC m_HS_bestThumb) 42 = .ok (.getfield 264, 3) := by decide +kernel
theorem d_HS_bestThumb_45 : decode (mC m_HS_bestThumb) 45 = .ok (.iload_n 1, 1) := by decide +kernel
theorem d_HS_bestThumb_46 : decode (mC m_HS_bestThumb) 46 = .ok (.aaload, 1) := by decide +kernel
theorem d_HS_bestThumb_47 : decode (mC m_HS_bestThumb) 47 = .ok (.iload 5, 2) := by decide +kernel
theorem d_HS_bestThumb_49 : decode (mC m_HS_bestThumb) 49 = .ok (.putfield 147, 3) := by decide +kernel
theorem d_HS_bestThumb_52 : decode (mC m_HS_bestThumb) 52 = .ok (.aload_n 0, 1) := by decide +kernel
theorem d_HS_bestThumb_53 : decode (mC m_HS_bestThumb) 53 = .ok (.getfield 24, 3) := by decide +kernel
theorem d_HS_bestThumb_56 : decode (mC m_HS_bestThumb) 56 = .ok (.iload_n 2, 1) := by decide +kernel
theorem d_HS_bestThumb_57 : decode (mC m_HS_bestThumb) 57 = .ok (.invokevirtual 115, 3) := by decide +kernel
theorem d_HS_bestThumb_60 : decode (mC m_HS_bestThumb) 60 = .ok (.pop, 1) := by decide +kernel
theorem d_HS_bestThumb_61 : decode (mC m_HS_bestThumb) 61 = .ok (.aload_n 0, 1) := by decide +kernel
theorem d_HS_bestThumb_62 : decode (mC m_HS_bestThumb) 62 = .ok (.getfield 24, 3) := by decide +kernel
theorem d_HS_bestThumb_65 : decode (mC m_HS_bestThumb) 65 = .ok (.getfield 264, 3) := by decide +kernel
theorem d_HS_bestThumb_68 : decode (mC m_HS_bestThumb) 68 = .ok (.iload_n 1, 1) := by decide +kernel
theorem d_HS_bestThumb_69 : decode (mC m_HS_bestThumb) 69 = .ok (.aaload, 1) := by decide +kernel
theorem d_HS_bestThumb_70 : decode (mC m_HS_bestThumb) 70 = .ok (.getfield 144, 3) := by decide +kernel
theorem d_HS_bestThumb_73 : decode (mC m_HS_bestThumb) 73 = .ok (.istore 6, 2) := by decide +kernel
theorem d_HS_bestThumb_75 : decode (mC m_HS_bestThumb) 75 = .ok (.iload 5, 2) := by decide +kernel
theorem d_HS_bestThumb_77 : decode (mC m_HS_bestThumb) 77 = .ok (.ifCond .eq 10, 3) := by decide +kernel
theorem d_HS_bestThumb_80 : decode (mC m_HS_bestThumb) 80 = .ok (.iload 6, 2) := by decide +kernel
theorem d_HS_bestThumb_82 : decode (mC m_HS_bestThumb) 82 = .ok (.iload 4, 2) := by decide +kernel
theorem d_HS_bestThumb_84 : decode (mC m_HS_bestThumb) 84 = .ok (.if_icmp .le 10, 3) := by decide +kernel
theorem d_HS_bestThumb_87 : decode (mC m_HS_bestThumb) 87 = .ok (.iload 5, 2) := by decide +kernel
theorem d_HS_bestThumb_89 : decode (mC m_HS_bestThumb) 89 = .ok (.istore_n 3, 1) := by decide +kernel
theorem d_HS_bestThumb_90 : decode (mC m_HS_bestThumb) 90 = .ok (.iload 6, 2) := by decide +kernel
theorem d_HS_bestThumb_92 : decode (mC m_HS_bestThumb) 92 = .ok (.istore 4, 2) := by decide +kernel
theorem d_HS_bestThumb_94 : decode (mC m_HS_bestThumb) 94 = .ok (.iinc 5 5, 3) := by decide +kernel
theorem d_HS_bestThumb_97 : decode (mC m_HS_bestThumb) 97 = .ok (.goto (-77), 3) := by decide +kernel
theorem d_HS_bestThumb_100 : decode (mC m_HS_bestThumb) 100 = .ok (.iload_n 3, 1) := by decide +kernel
theorem d_HS_bestThumb_101 : decode (mC m_HS_bestThumb) 101 = .ok (.ireturn, 1) := by decide +kernel
theorem lp_HS_bestThumb {E : En} {h : Hp} {x b nb nw sc ni U : Nat} {C9 : Bu} {i : Nat} {days : Nat} (k_x : hK h x = 1) (r_x_2 : hR h x 2 = some nb) (r_x_3 : hR h x 3 = some b) (hN : BuOk h nb) (hB : BuOk h b) (hD : Dis h b nb) (hG : Gd (vB h nb) nw sc ni U) (hC9 : C9 = P_copy nw sc (vB h b) (vB h nb)) (hi : i < sc) (hU : U + days ≤ 1999999000) (hp0 : ¬ Q_purse (Q_thumb C9 i 0) nw sc ni i days ≤ -2000000000) : ∀ (d k : Nat) (bp bt : Int32) (F : Bu), k + d = 21 → P_copy nw sc F (vB h nb) = C9 → (k = 0 ∨ (bt = (Q_best C9 nw sc ni i days k).1 ∧ bp = (Q_best C9 nw sc ni i days k).2)) → G E m_HS_bestThumb 20 [(5, .int (nI (5 * k))), (4, .int bp), (3, .int bt), (0, .ref x), (1, .int (nI i)), (2, .int (nI days))] [] (wB h b F) 0 0 (fun v h1 => v = some (.int (Q_best C9 nw sc ni i days 21).1) ∧ ∃ F, h1 = wB h b F) noX := by
  have hG9 : Gd C9 nw sc ni U := by rw [hC9]; exact Gd_copy hG
  obtain ⟨hw9, hn9, hs9, hm9, -, -, -, -, hop9⟩ := id hG.1
  obtain ⟨hw, hn, hs, hm, h0, hni, n3, ⟨sd, hsd, hsx⟩, hop⟩ := id hG9.1
  intro d
  have hC8 : P_copy nw sc C9 (vB h nb) = C9 := by rw [hC9]; exact JE_copy
  induction d with
  | zero =>
    intro k bp bt F hd hF hk
    have e21 : k = 21 := by omega
    subst e21
    have e9 := hk.resolve_left (by omega)
    refine g_iload (pc := 20) d_HS_bestThumb_20 0 rfl ?_
    refine g_bipush (pc := 22) (v := 100) d_HS_bestThumb_22 (by decide) ?_
    refine g_icmp_gt (pc := 24) (tgt := 100) d_HS_bestThumb_24 (by decide) (fun c_24 => ?_) (fun c_24 => ?_)
    · skip
      refine g_iload_n (pc := 100) d_HS_bestThumb_100 rfl 2 rfl ?_
      refine g_iret (pc := 101) d_HS_bestThumb_101 rfl ?_
      rw [e9.1]
      exact ⟨rfl, _, rfl⟩
    · exact absurd ((nI_ltI (a := 100) (b := 5 * 21) (by omega) (by omega)).mpr (by omega)) c_24
  | succ d ih =>
    intro k bp bt F hd hF hk
    have hG7 : Gd (Q_thumb C9 i (nI (5 * k))) nw sc ni U := Gd_sS hG9 (Sg_u (hG9.sg hi) (by decide))
    have hJ : P_copy nw sc (P_pass nw sc ni days (0, Q_thumb C9 i (nI (5 * k)))).2 (vB h nb) = C9 := by
      have j1 : JE sc C9 (Q_thumb C9 i (nI (5 * k))) := JE_sS hi (KS_u KS_r (by decide))
      rw [P_copy_JE (j1.trans (JE_pass (nw := nw) (ni := ni) h0 days (0, Q_thumb C9 i (nI (5 * k))))), hC8]
    refine g_iload (pc := 20) d_HS_bestThumb_20 0 rfl ?_
    refine g_bipush (pc := 22) (v := 100) d_HS_bestThumb_22 (by decide) ?_
    refine g_icmp_gt (pc := 24) (tgt := 100) d_HS_bestThumb_24 (by decide) (fun c_24 => ?_) (fun c_24 => ?_)
    · exact absurd ((nI_ltI (a := 100) (b := 5 * k) (by omega) (by omega)).mp c_24) (by omega)
    · skip
      refine g_aload_n (pc := 27) d_HS_bestThumb_27 rfl 3 rfl ?_
      refine g_getR (pc := 28) (ci := 0) (f := 3) (b := b) rfl r_x_3 d_HS_bestThumb_28 fl_HS_24 (by decide) k_x ?_
      refine g_aload_n (pc := 31) d_HS_bestThumb_31 rfl 3 rfl ?_
      refine g_getR (pc := 32) (ci := 0) (f := 2) (b := nb) rfl r_x_2 d_HS_bestThumb_32 fl_HS_50 (by decide) k_x ?_
      refine g_cV0 (pc := 35) (ci := 4) (As := [.ref _]) d_HS_bestThumb_35 rfl mv_BU_copyFrom st_HS_bestThumb_92 rfl rfl (by decide) rfl rfl (Nat.le_of_ble_eq_true rfl) hB.1 (cb_copyFrom hB hN hD hw9 hn9 hs9 hm9 hop9) ?_
      rw [hF]
      refine g_aload_n (pc := 38) d_HS_bestThumb_38 rfl 3 rfl ?_
      refine g_getR (pc := 39) (ci := 0) (f := 3) (b := b) rfl r_x_3 d_HS_bestThumb_39 fl_HS_24 (by decide) k_x ?_
      refine g_bgS (pc := 42) d_HS_bestThumb_42 fl_HS_264 hB ?_
      refine g_iload_n (pc := 45) d_HS_bestThumb_45 rfl 4 rfl ?_
      refine g_bsl (pc := 46) d_HS_bestThumb_46 hB (by first | assumption | omega | decide) ?_
      refine g_iload (pc := 47) d_HS_bestThumb_47 0 rfl ?_
      refine g_spI (pc := 49) (f := 6) rfl d_HS_bestThumb_49 fl_HS_147 (fun q hq => by cases hq; exact rfl) rfl rfl hB (by first | assumption | omega | decide) ?_
      refine g_h (h' := wB h b (Q_thumb C9 i (nI (5 * k)))) rfl ?_
      refine g_aload_n (pc := 52) d_HS_bestThumb_52 rfl 3 rfl ?_
      refine g_getR (pc := 53) (ci := 0) (f := 3) (b := b) rfl r_x_3 d_HS_bestThumb_53 fl_HS_24 (by decide) k_x ?_
      refine g_iload_n (pc := 56) d_HS_bestThumb_56 rfl 5 rfl ?_
      refine g_cV1 (pc := 57) (ci := 4) (As := [.int _]) d_HS_bestThumb_57 rfl mv_BU_passMany st_HS_bestThumb_115 rfl rfl (by decide) rfl rfl (Nat.le_of_ble_eq_true rfl) hB.1 (cb_passMany (B := Q_thumb C9 i (nI (5 * k))) hB hG7.1 (by omega)) ?_
      refine g_pop (pc := 60) d_HS_bestThumb_60 rfl ?_
      refine g_aload_n (pc := 61) d_HS_bestThumb_61 rfl 3 rfl ?_
      refine g_getR (pc := 62) (ci := 0) (f := 3) (b := b) rfl r_x_3 d_HS_bestThumb_62 fl_HS_24 (by decide) k_x ?_
      refine g_bgS (pc := 65) d_HS_bestThumb_65 fl_HS_264 hB ?_
      refine g_iload_n (pc := 68) d_HS_bestThumb_68 rfl 4 rfl ?_
      refine g_bsl (pc := 69) d_HS_bestThumb_69 hB (by first | assumption | omega | decide) ?_
      refine g_sgI (pc := 70) (f := 0) rfl d_HS_bestThumb_70 fl_HS_144 hB (by first | assumption | omega | decide) ?_
      refine g_istore (pc := 73) (lv' := [(6, .int (Q_purse (Q_thumb C9 i (nI (5 * k))) nw sc ni i days)), (5, .int (nI (5 * k))), (4, .int bp), (3, .int bt), (0, .ref x), (1, .int (nI i)), (2, .int (nI days))]) d_HS_bestThumb_73 (by decide) rfl ?_
      refine g_iload (pc := 75) d_HS_bestThumb_75 1 rfl ?_
      refine g_if_eq (pc := 77) (tgt := 87) d_HS_bestThumb_77 (by decide) (fun c_77 => ?_) (fun c_77 => ?_)
      · skip
        have k0 : k = 0 := by have := (nI_eq (a := 5 * k) (b := 0) (by omega) (by omega)).mp c_77; omega
        refine g_iload (pc := 87) d_HS_bestThumb_87 1 rfl ?_
        refine g_istore_n (pc := 89) (lv' := [(3, .int (nI (5 * k))), (6, .int (Q_purse (Q_thumb C9 i (nI (5 * k))) nw sc ni i days)), (5, .int (nI (5 * k))), (4, .int bp), (0, .ref x), (1, .int (nI i)), (2, .int (nI days))]) d_HS_bestThumb_89 rfl (by decide) rfl ?_
        refine g_iload (pc := 90) d_HS_bestThumb_90 1 rfl ?_
        refine g_istore (pc := 92) (lv' := [(4, .int (Q_purse (Q_thumb C9 i (nI (5 * k))) nw sc ni i days)), (3, .int (nI (5 * k))), (6, .int (Q_purse (Q_thumb C9 i (nI (5 * k))) nw sc ni i days)), (5, .int (nI (5 * k))), (0, .ref x), (1, .int (nI i)), (2, .int (nI days))]) d_HS_bestThumb_92 (by decide) rfl ?_
        obtain ⟨x_1, hx_1⟩ : ∃ y : Int32, y = (nI (5 * k)) + 5 := ⟨_, rfl⟩
        refine g_iinc (pc := 94) (w := 3) (v := x_1) (lv' := [(5, .int x_1), (4, .int (Q_purse (Q_thumb C9 i (nI (5 * k))) nw sc ni i days)), (3, .int (nI (5 * k))), (6, .int (Q_purse (Q_thumb C9 i (nI (5 * k))) nw sc ni i days)), (0, .ref x), (1, .int (nI i)), (2, .int (nI days))]) d_HS_bestThumb_94 rfl (by rw [hx_1]; rfl) (by decide) rfl ?_
        refine g_goto (pc := 97) (tgt := 20) d_HS_bestThumb_97 (by decide) ?_
        have e8 : x_1 = nI (5 * (k + 1)) := by rw [hx_1, Nat.mul_add]; exact nI_add (5 * k) 5
        clear hx_1
        subst e8
        refine g_perm [0, 1, 2, 4, 5, 6] rfl ?_
        refine ih (k + 1) _ _ _ (by omega) hJ (Or.inr ?_)
        rw [Q_best]
        first
        | (have hq : ¬ (Q_purse (Q_thumb C9 i (nI (5 * k))) nw sc ni i days) ≤ (Q_best C9 nw sc ni i days k).2 := by subst k0; exact hp0
           rw [if_neg hq]; exact ⟨rfl, rfl⟩)
        | (rw [if_neg (by rw [← e9.2]; exact c_84)]; exact ⟨rfl, rfl⟩)
      · skip
        have k0 : ¬ k = 0 := fun z => c_77 (by rw [z]; rfl)
        have e9 := hk.resolve_left k0
        refine g_iload (pc := 80) d_HS_bestThumb_80 0 rfl ?_
        refine g_iload (pc := 82) d_HS_bestThumb_82 2 rfl ?_
        refine g_icmp_le (pc := 84) (tgt := 94) d_HS_bestThumb_84 (by decide) (fun c_84 => ?_) (fun c_84 => ?_)
        · skip
          obtain ⟨x_2, hx_2⟩ : ∃ y : Int32, y = (nI (5 * k)) + 5 := ⟨_, rfl⟩
          refine g_iinc (pc := 94) (w := 1) (v := x_2) (lv' := [(5, .int x_2), (6, .int (Q_purse (Q_thumb C9 i (nI (5 * k))) nw sc ni i days)), (4, .int bp), (3, .int bt), (0, .ref x), (1, .int (nI i)), (2, .int (nI days))]) d_HS_bestThumb_94 rfl (by rw [hx_2]; rfl) (by decide) rfl ?_
          refine g_goto (pc := 97) (tgt := 20) d_HS_bestThumb_97 (by decide) ?_
          have e8 : x_2 = nI (5 * (k + 1)) := by rw [hx_2, Nat.mul_add]; exact nI_add (5 * k) 5
          clear hx_2
          subst e8
          refine g_perm [0, 2, 3, 4, 5, 6] rfl ?_
          refine ih (k + 1) _ _ _ (by omega) hJ (Or.inr ?_)
          rw [Q_best]
          rw [if_pos (by rw [← e9.2]; exact c_84)]
          exact e9
        · skip
          refine g_iload (pc := 87) d_HS_bestThumb_87 1 rfl ?_
          refine g_istore_n (pc := 89) (lv' := [(3, .int (nI (5 * k))), (6, .int (Q_purse (Q_thumb C9 i (nI (5 * k))) nw sc ni i days)), (5, .int (nI (5 * k))), (4, .int bp), (0, .ref x), (1, .int (nI i)), (2, .int (nI days))]) d_HS_bestThumb_89 rfl (by decide) rfl ?_
          refine g_iload (pc := 90) d_HS_bestThumb_90 1 rfl ?_
          refine g_istore (pc := 92) (lv' := [(4, .int (Q_purse (Q_thumb C9 i (nI (5 * k))) nw sc ni i days)), (3, .int (nI (5 * k))), (6, .int (Q_purse (Q_thumb C9 i (nI (5 * k))) nw sc ni i days)), (5, .int (nI (5 * k))), (0, .ref x), (1, .int (nI i)), (2, .int (nI days))]) d_HS_bestThumb_92 (by decide) rfl ?_
          obtain ⟨x_3, hx_3⟩ : ∃ y : Int32, y = (nI (5 * k)) + 5 := ⟨_, rfl⟩
          refine g_iinc (pc := 94) (w := 3) (v := x_3) (lv' := [(5, .int x_3), (4, .int (Q_purse (Q_thumb C9 i (nI (5 * k))) nw sc ni i days)), (3, .int (nI (5 * k))), (6, .int (Q_purse (Q_thumb C9 i (nI (5 * k))) nw sc ni i days)), (0, .ref x), (1, .int (nI i)), (2, .int (nI days))]) d_HS_bestThumb_94 rfl (by rw [hx_3]; rfl) (by decide) rfl ?_
          refine g_goto (pc := 97) (tgt := 20) d_HS_bestThumb_97 (by decide) ?_
          have e8 : x_3 = nI (5 * (k + 1)) := by rw [hx_3, Nat.mul_add]; exact nI_add (5 * k) 5
          clear hx_3
          subst e8
          refine g_perm [0, 1, 2, 4, 5, 6] rfl ?_
          refine ih (k + 1) _ _ _ (by omega) hJ (Or.inr ?_)
          rw [Q_best]
          first
          | (have hq : ¬ (Q_purse (Q_thumb C9 i (nI (5 * k))) nw sc ni i days) ≤ (Q_best C9 nw sc ni i days k).2 := by subst k0; exact hp0
             rw [if_neg hq]; exact ⟨rfl, rfl⟩)
          | (rw [if_neg (by rw [← e9.2]; exact c_84)]; exact ⟨rfl, rfl⟩)
set_option maxRecDepth 20000 in
theorem cs_HS_bestThumb {E : En} {h : Hp} {x b nb nw sc ni U : Nat} {C9 : Bu} {i : Nat} {days : Nat} (k_x : hK h x = 1) (r_x_2 : hR h x 2 = some nb) (r_x_3 : hR h x 3 = some b) (hN : BuOk h nb) (hB : BuOk h b) (hD : Dis h b nb) (hG : Gd (vB h nb) nw sc ni U) (hC9 : C9 = P_copy nw sc (vB h b) (vB h nb)) (hi : i < sc) (hU : U + days ≤ 1999999000) (hp0 : ¬ Q_purse (Q_thumb C9 i 0) nw sc ni i days ≤ -2000000000) (hr1 : (1 : Int32) ≤ nI days) (hr2 : nI days ≤ 100) : CT E m_HS_bestThumb [.ref x, .int (nI i), .int (nI days)] h 0 0 (fun v h1 => v = some (.int (Q_best C9 nw sc ni i days 21).1) ∧ ∃ F, h1 = wB h b F) noX := by
  refine ct_of rfl (by decide +kernel) (Nat.le_of_ble_eq_true rfl) ?_
  show G E m_HS_bestThumb 0 [(0, .ref x), (1, .int (nI i)), (2, .int (nI days))] [] h 0 0 _ noX
  have hG9 : Gd C9 nw sc ni U := by rw [hC9]; exact Gd_copy hG
  obtain ⟨hw9, hn9, hs9, hm9, -, -, -, -, hop9⟩ := id hG.1
  obtain ⟨hw, hn, hs, hm, h0, hni, n3, ⟨sd, hsd, hsx⟩, hop⟩ := id hG9.1
  refine g_aload_n (pc := 0) d_HS_bestThumb_0 rfl 0 rfl ?_
  refine g_iload_n (pc := 1) d_HS_bestThumb_1 rfl 1 rfl ?_
  refine g_cV0 (pc := 2) (ci := 0) (As := [.int _]) d_HS_bestThumb_2 rfl mv_HS_requireShop st_HS_bestThumb_258 rfl rfl (by decide) rfl rfl (Nat.le_of_ble_eq_true rfl) k_x (cs_noop (cs_HS_requireShop k_x r_x_2 hN hG hi) ) ?_
  refine g_iload_n (pc := 5) d_HS_bestThumb_5 rfl 2 rfl ?_
  refine g_iconst (pc := 6) (v := 1) d_HS_bestThumb_6 (by decide) ?_
  refine g_bipush (pc := 7) (v := 100) d_HS_bestThumb_7 (by decide) ?_
  refine g_cS0 (pc := 9) (As := [.int _, .int _, .int _]) d_HS_bestThumb_9 rfl ms_HS_requireRange st_HS_bestThumb_70 rfl rfl (Nat.le_of_ble_eq_true rfl) (cs_HS_requireRange hr1 hr2) ?_
  refine g_iconst (pc := 12) (v := 0) d_HS_bestThumb_12 (by decide) ?_
  refine g_nameI (fun x_1 hx_1 => ?_)
  refine g_istore_n (pc := 13) (lv' := [(3, .int x_1), (0, .ref x), (1, .int (nI i)), (2, .int (nI days))]) d_HS_bestThumb_13 rfl (by decide) rfl ?_
  refine g_iconst (pc := 14) (v := 0) d_HS_bestThumb_14 (by decide) ?_
  refine g_nameI (fun x_2 hx_2 => ?_)
  refine g_istore (pc := 15) (lv' := [(4, .int x_2), (3, .int x_1), (0, .ref x), (1, .int (nI i)), (2, .int (nI days))]) d_HS_bestThumb_15 (by decide) rfl ?_
  refine g_iconst (pc := 17) (v := 0) d_HS_bestThumb_17 (by decide) ?_
  refine g_nameI (fun x_3 hx_3 => ?_)
  refine g_istore (pc := 18) (lv' := [(5, .int x_3), (4, .int x_2), (3, .int x_1), (0, .ref x), (1, .int (nI i)), (2, .int (nI days))]) d_HS_bestThumb_18 (by decide) rfl ?_
  subst hx_1 hx_2 hx_3
  refine g_h (h' := wB h b (vB h b)) wB_v.symm ?_
  exact lp_HS_bestThumb k_x r_x_2 r_x_3 hN hB hD hG hC9 hi hU hp0 21 0 0 0 (vB h b) rfl hC9.symm (Or.inl rfl)
set_option maxRecDepth 20000 in
theorem ce_HS_bestThumbN {E : En} {h : Hp} {x b nw sc ni U : Nat} {B : Bu} {v : Int32} {yv : Int32} (hE : (eL E).stackTraces = false) (k_x : hK h x = 1) (r_x_2 : hR h x 2 = some b) (hB : BuOk h b) (hG : Gd B nw sc ni U) (hv : v < 0 ∨ nI sc ≤ v) : CE E m_HS_bestThumb [.ref x, .int v, .int yv] (wB h b B) "java/lang/IndexOutOfBoundsException" := by
  refine ct_of rfl (by decide +kernel) (Nat.le_of_ble_eq_true rfl) ?_
  show G E m_HS_bestThumb 0 [(0, .ref x), (1, .int v), (2, .int yv)] [] (wB h b B) 1 6 _ _
  obtain ⟨hw, hn, hs, hm, h0, hni, n3, ⟨sd, hsd, hsx⟩, hop⟩ := id hG.1
  refine g_aload_n (pc := 0) d_HS_bestThumb_0 rfl 0 rfl ?_
  refine g_iload_n (pc := 1) d_HS_bestThumb_1 rfl 1 rfl ?_
  exact g_eV (k := 0) (n := 0) (pc := 2) (ci := 0) (As := [.int _]) d_HS_bestThumb_2 rfl mv_HS_requireShop st_HS_bestThumb_258 rfl rfl (by decide) k_x rfl rfl (Nat.le_of_ble_eq_true rfl) (ce_HS_requireShop hE k_x r_x_2 hB hG hv) ⟨rfl, rfl⟩
set_option maxRecDepth 20000 in
theorem ce_HS_bestThumbR {E : En} {h : Hp} {x b nw sc ni U : Nat} {B : Bu} {i : Nat} {yv : Int32} (hE : (eL E).stackTraces = false) (k_x : hK h x = 1) (r_x_2 : hR h x 2 = some b) (hB : BuOk h b) (hG : Gd B nw sc ni U) (hi : i < sc) (hrn : yv < 1 ∨ 100 < yv) : CE E m_HS_bestThumb [.ref x, .int (nI i), .int yv] (wB h b B) "java/lang/IllegalArgumentException" := by
  refine ct_of rfl (by decide +kernel) (Nat.le_of_ble_eq_true rfl) ?_
  show G E m_HS_bestThumb 0 [(0, .ref x), (1, .int (nI i)), (2, .int yv)] [] (wB h b B) 1 6 _ _
  obtain ⟨hw, hn, hs, hm, h0, hni, n3, ⟨sd, hsd, hsx⟩, hop⟩ := id hG.1
  refine g_aload_n (pc := 0) d_HS_bestThumb_0 rfl 0 rfl ?_
  refine g_iload_n (pc := 1) d_HS_bestThumb_1 rfl 1 rfl ?_
  refine g_cV0 (pc := 2) (ci := 0) (As := [.int _]) d_HS_bestThumb_2 rfl mv_HS_requireShop st_HS_bestThumb_258 rfl rfl (by decide) rfl rfl (Nat.le_of_ble_eq_true rfl) k_x (cs_HS_requireShop k_x r_x_2 hB hG hi) ?_
  refine g_iload_n (pc := 5) d_HS_bestThumb_5 rfl 2 rfl ?_
  refine g_iconst (pc := 6) (v := 1) d_HS_bestThumb_6 (by decide) ?_
  refine g_bipush (pc := 7) (v := 100) d_HS_bestThumb_7 (by decide) ?_
  exact g_eS (k := 0) (n := 0) (pc := 9) (As := [.int _, .int _, .int _]) d_HS_bestThumb_9 rfl ms_HS_requireRange st_HS_bestThumb_70 rfl rfl (Nat.le_of_ble_eq_true rfl) (ce_HS_requireRange hE hrn) ⟨rfl, rfl⟩
