/-! THE CLASS'S OWN METHODS: a setup, a script -/
theorem TF_len' {F0 : Nat → Int32} {n : Nat} {t : Tk} : u1 (rF F0 n t) 1 0 = rF F0 0 t := TF_len (j := 0)
theorem d_HS_loadSetup_0 : decode (mC m_HS_loadSetup) 0 = .ok (.aload_n 0, 1) := by decide +kernel
theorem d_HS_loadSetup_1 : decode (mC m_HS_loadSetup) 1 = .ok (.getfield 10, 3) := by decide +kernel
theorem d_HS_loadSetup_4 : decode (mC m_HS_loadSetup) 4 = .ok (.aload_n 0, 1) := by decide +kernel
theorem d_HS_loadSetup_5 : decode (mC m_HS_loadSetup) 5 = .ok (.getfield 24, 3) := by decide +kernel
theorem d_HS_loadSetup_8 : decode (mC m_HS_loadSetup) 8 = .ok (.invokevirtual 80, 3) := by decide +kernel
theorem d_HS_loadSetup_11 : decode (mC m_HS_loadSetup) 11 = .ok (.istore_n 1, 1) := by decide +kernel
theorem d_HS_loadSetup_12 : decode (mC m_HS_loadSetup) 12 = .ok (.aload_n 0, 1) := by decide +kernel
theorem d_HS_loadSetup_13 : decode (mC m_HS_loadSetup) 13 = .ok (.getfield 20, 3) := by decide +kernel
theorem d_HS_loadSetup_16 : decode (mC m_HS_loadSetup) 16 = .ok (.iconst 0, 1) := by decide +kernel
theorem d_HS_loadSetup_17 : decode (mC m_HS_loadSetup) 17 = .ok (.putfield 53, 3) := by decide +kernel
theorem d_HS_loadSetup_20 : decode (mC m_HS_loadSetup) 20 = .ok (.iload_n 1, 1) := by decide +kernel
theorem d_HS_loadSetup_21 : decode (mC m_HS_loadSetup) 21 = .ok (.invokestatic 84, 3) := by decide +kernel
theorem d_HS_loadSetup_24 : decode (mC m_HS_loadSetup) 24 = .ok (.aload_n 0, 1) := by decide +kernel
theorem d_HS_loadSetup_25 : decode (mC m_HS_loadSetup) 25 = .ok (.getfield 31, 3) := by decide +kernel
theorem d_HS_loadSetup_28 : decode (mC m_HS_loadSetup) 28 = .ok (.aload_n 0, 1) := by decide +kernel
theorem d_HS_loadSetup_29 : decode (mC m_HS_loadSetup) 29 = .ok (.getfield 50, 3) := by decide +kernel
theorem d_HS_loadSetup_32 : decode (mC m_HS_loadSetup) 32 = .ok (.invokevirtual 88, 3) := by decide +kernel
theorem d_HS_loadSetup_35 : decode (mC m_HS_loadSetup) 35 = .ok (.aload_n 0, 1) := by decide +kernel
theorem d_HS_loadSetup_36 : decode (mC m_HS_loadSetup) 36 = .ok (.getfield 50, 3) := by decide +kernel
theorem d_HS_loadSetup_39 : decode (mC m_HS_loadSetup) 39 = .ok (.aload_n 0, 1) := by decide +kernel
theorem d_HS_loadSetup_40 : decode (mC m_HS_loadSetup) 40 = .ok (.getfield 24, 3) := by decide +kernel
theorem d_HS_loadSetup_43 : decode (mC m_HS_loadSetup) 43 = .ok (.invokevirtual 92, 3) := by decide +kernel
theorem d_HS_loadSetup_46 : decode (mC m_HS_loadSetup) 46 = .ok (.aload_n 0, 1) := by decide +kernel
theorem d_HS_loadSetup_47 : decode (mC m_HS_loadSetup) 47 = .ok (.getfield 50, 3) := by decide +kernel
theorem d_HS_loadSetup_50 : decode (mC m_HS_loadSetup) 50 = .ok (.getfield 95, 3) := by decide +kernel
theorem d_HS_loadSetup_53 : decode (mC m_HS_loadSetup) 53 = .ok (.ireturn, 1) := by decide +kernel
set_option maxRecDepth 20000 in
set_option maxHeartbeats 1000000 in
theorem cs_HS_loadSetup {E : En} {h : Hp} {x ip bt pa rw sc b nb hy n : Nat} {F0 T P0 V : Nat → Int32} {q : Ps} {B : Bu} {nw sc2 ni U : Nat} {Q : Hp → Prop} (k_x : hK h x = 1) (r_x_0 : hR h x 0 = some pa) (r_x_1 : hR h x 1 = some ip) (r_x_2 : hR h x 2 = some nb) (r_x_3 : hR h x 3 = some b) (r_x_4 : hR h x 4 = some hy) (hI9 : InOk h ip bt) (hP9 : PaOk h pa ip rw sc) (nd : (ip :: bt :: pa :: rw :: ([] : List (Nat × (Nat → Int32))).map Prod.fst).Nodup) (hn : n ≤ 500) (hB : BuOk h b) (fo : ∀ a, a ∈ ip :: bt :: pa :: rw :: ([] : List (Nat × (Nat → Int32))).map Prod.fst → Fo h b a) (y1 : (Y_setup T n q V B).1 = true) (k_hy : hK h hy = 7) (hG : Gd (Y_setup T n q V B).2.2.2 nw sc2 ni U) (hRm : CT E m_HI_remember [.ref hy, .ref nb] (wL (wB h b (Y_setup T n q V B).2.2.2) ((ip, rF F0 0 (Y_setup T n q V B).2.1.1) :: (bt, T) :: (pa, rP P0 (Y_setup T n q V B).2.1.2) :: (rw, (Y_setup T n q V B).2.2.1) :: [])) 11 156 (fun v h9 => v = none ∧ Q h9) noX) (hQ : ∀ h9, Q h9 → BuOk h9 nb ∧ BuOk h9 b ∧ vB h9 b = (Y_setup T n q V B).2.2.2 ∧ Dis h9 nb b ∧ hR h9 x = hR h x ∧ hK h9 x = hK h x) : CT E m_HS_loadSetup [.ref x] (wL (wB h b B) ((ip, rF F0 n q.1) :: (bt, T) :: (pa, rP P0 q.2) :: (rw, V) :: [])) 11 156 (fun v h1 => ∃ h9, Q h9 ∧ v = some (.int ((Y_setup T n q V B).2.2.2.1 8)) ∧ h1 = wB h9 nb (P_copy nw sc2 (vB h9 nb) (Y_setup T n q V B).2.2.2)) noX := by
  refine ct_of rfl (by decide +kernel) (Nat.le_of_ble_eq_true rfl) ?_
  show G E m_HS_loadSetup 0 [(0, .ref x)] [] (wL (wB h b B) ((ip, rF F0 n q.1) :: (bt, T) :: (pa, rP P0 q.2) :: (rw, V) :: [])) 11 156 _ noX
  obtain ⟨k_ip, r_ip_0, k_bt, l_bt⟩ := id hI9
  obtain ⟨k_pa, -⟩ := id hP9
  refine g_aload_n (pc := 0) d_HS_loadSetup_0 rfl 0 rfl ?_
  refine g_getR (pc := 1) (ci := 0) (f := 0) (b := pa) rfl r_x_0 d_HS_loadSetup_1 fl_HS_10 (by decide) k_x ?_
  refine g_aload_n (pc := 4) d_HS_loadSetup_4 rfl 0 rfl ?_
  refine g_getR (pc := 5) (ci := 0) (f := 3) (b := b) rfl r_x_3 d_HS_loadSetup_5 fl_HS_24 (by decide) k_x ?_
  refine g_cV1 (pc := 8) (ci := 1) (As := [.ref _]) d_HS_loadSetup_8 rfl mv_PA_readSetup st_HS_loadSetup_80 rfl rfl (by decide) rfl rfl (Nat.le_of_ble_eq_true rfl) k_pa (cx_PA_readSetup hI9 hP9 nd hn hB fo) ?_
  refine g_istore_n (pc := 11) (lv' := [(1, .int (bI (Y_setup T n q V B).1)), (0, .ref x)]) d_HS_loadSetup_11 rfl (by decide) rfl ?_
  refine g_aload_n (pc := 12) d_HS_loadSetup_12 rfl 1 rfl ?_
  refine g_getR (pc := 13) (ci := 0) (f := 1) (b := ip) rfl r_x_1 d_HS_loadSetup_13 fl_HS_20 (by decide) k_x ?_
  refine g_iconst (pc := 16) (v := 0) d_HS_loadSetup_16 (by decide) ?_
  refine g_lpI0 (pc := 17) (ci := 2) (f := 1) rfl d_HS_loadSetup_17 fl_HS_53 (fun q hq => by cases hq; exact rfl) rfl rfl (by decide) k_ip nd ?_
  refine g_iload_n (pc := 20) d_HS_loadSetup_20 rfl 0 rfl ?_
  refine g_h (h' := wL (wB h b (Y_setup T n q V B).2.2.2) ((ip, rF F0 0 (Y_setup T n q V B).2.1.1) :: (bt, T) :: (pa, rP P0 (Y_setup T n q V B).2.1.2) :: (rw, (Y_setup T n q V B).2.2.1) :: [])) (by rw [TF_len']) ?_
  refine g_top (y := 1) (by rw [y1]; rfl) ?_
  refine g_cS0 (pc := 21) (As := [.int _]) d_HS_loadSetup_21 rfl ms_HS_requireGoodText st_HS_loadSetup_84 rfl rfl (Nat.le_of_ble_eq_true rfl) (cs_HS_requireGoodText ) ?_
  refine g_aload_n (pc := 24) d_HS_loadSetup_24 rfl 1 rfl ?_
  refine g_getR (pc := 25) (ci := 0) (f := 4) (b := hy) rfl r_x_4 d_HS_loadSetup_25 fl_HS_31 (by decide) k_x ?_
  refine g_aload_n (pc := 28) d_HS_loadSetup_28 rfl 1 rfl ?_
  refine g_getR (pc := 29) (ci := 0) (f := 2) (b := nb) rfl r_x_2 d_HS_loadSetup_29 fl_HS_50 (by decide) k_x ?_
  refine g_callV (k := 0) (n := 0) (kz := 11) (nz := 156) (pc := 32) (ci := 6) (As := [.ref _]) d_HS_loadSetup_32 rfl mv_HI_remember st_HS_loadSetup_88 rfl rfl (by decide) k_hy rfl rfl (Nat.le_of_ble_eq_true rfl) hRm (fun _ _ z => z.elim) (fun v h9 z => ?_)
  obtain ⟨rfl, q9⟩ := z
  clear hB
  obtain ⟨hN, hB, v9, hD, x9, k9⟩ := hQ h9 q9
  have k_x := k9.trans k_x
  have r_x_2 := (congrFun x9 2).trans r_x_2
  have r_x_3 := (congrFun x9 3).trans r_x_3
  rw [← v9] at hG
  obtain ⟨hw9, hn9, hs9, hm9, -, -, -, -, hop9⟩ := id hG.1
  refine g_aload_n (pc := 35) d_HS_loadSetup_35 rfl 1 rfl ?_
  refine g_getR (pc := 36) (ci := 0) (f := 2) (b := nb) rfl r_x_2 d_HS_loadSetup_36 fl_HS_50 (by decide) k_x ?_
  refine g_aload_n (pc := 39) d_HS_loadSetup_39 rfl 1 rfl ?_
  refine g_getR (pc := 40) (ci := 0) (f := 3) (b := b) rfl r_x_3 d_HS_loadSetup_40 fl_HS_24 (by decide) k_x ?_
  refine g_h (h' := wB h9 nb (vB h9 nb)) wB_v.symm ?_
  refine g_cV0 (pc := 43) (ci := 4) (As := [.ref _]) d_HS_loadSetup_43 rfl mv_BU_copyFrom st_HS_loadSetup_92 rfl rfl (by decide) rfl rfl (Nat.le_of_ble_eq_true rfl) hN.1 (cb_copyFrom hN hB hD hw9 hn9 hs9 hm9 hop9) ?_
  rw [v9]
  refine g_aload_n (pc := 46) d_HS_loadSetup_46 rfl 1 rfl ?_
  refine g_getR (pc := 47) (ci := 0) (f := 2) (b := nb) rfl r_x_2 d_HS_loadSetup_47 fl_HS_50 (by decide) k_x ?_
  refine g_bgI (pc := 50) (f := 8) rfl d_HS_loadSetup_50 fl_HS_95 hN ?_
  refine g_top (y := (Y_setup T n q V B).2.2.2.1 8) (P_copy_c (by decide)) ?_
  refine g_iret (pc := 53) d_HS_loadSetup_53 rfl ?_
  exact ⟨h9, q9, rfl, rfl⟩
