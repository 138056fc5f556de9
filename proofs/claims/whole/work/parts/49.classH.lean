/-! THE CLASS'S OWN METHODS: a setup, a script -/
theorem TF_len' {F0 : Nat → Int32} {n : Nat} {t : Tk} : u1 (rF F0 n t) 1 0 = rF F0 0 t := TF_len (j := 0)
theorem d_HS_loadSetup_0 : decode (mC m_HS_loadSetup) 0 = .ok (.aload_n 0, 1) := by decide +kernel
theorem d_HS_loadSetup_1 : decode (mC m_HS_loadSetup) 1 = .ok (.getfield 10, 3) := by decide +kernel
theorem d_HS_loadSetup_4 : decode (mC m_HS_loadSetup) 4 = .ok (.aload_n 0, 1) := by decide +kernel
theorem d_HS_loadSetup_5 : decode (mC m_HS_loadSetup) 5 = .ok (.getfield 24, 3) := by decide +kernel
theorem d_HS_loadSetup_8 : decode (mC m_HS_loadSetup) 8 = .ok (.invokevirtual 80, 3) := by decide +kernel
theorem d_HS_loadSetup_11 : decode (mC m_HS_loadSetup) 11 = .ok (.istore_n 1, 1) := by decide +kernel
theorem d_HS_loadSetup_12 : decode (mC m_HS_loadSetup) 12 = .ok (.aload_n 0, 1) := by decide +kernel
theorem d_HS_loadSetup_13 : decode (mC m_HS_loadSetup) 13 = .ok (.getfield 20, 3) := by decide +kernel
theorem d_HS_loadSetup_16 : decode (mC m_HS_loadSetup) 16 = .ok (.iconst 0, 1) := by decide +kernel
theorem d_HS_loadSetup_17 : decode (mC m_HS_loadSetup) 17 = .ok (.putfield 53, 3) := by decide +kernel
theorem d_HS_loadSetup_20 : decode (mC m_HS_loadSetup) 20 = .ok (.iload_n 1, 1) := by decide +kernel
theorem d_HS_loadSetup_21 : decode (mC m_HS_loadSetup) 21 = .ok (.invokestatic 84, 3) := by decide +kernel
theorem d_HS_loadSetup_24 : decode (mC m_HS_loadSetup) 24 = .ok (.aload_n 0, 1) := by decide +kernel
theorem d_HS_loadSetup_25 : decode (mC m_HS_loadSetup) 25 = .ok (.getfield 31, 3) := by decide +kernel
theorem d_HS_loadSetup_28 : decode (mC m_HS_loadSetup) 28 = .ok (.aload_n 0, 1) := by decide +kernel
theorem d_HS_loadSetup_29 : decode (mC m_HS_loadSetup) 29 = .ok (.getfield 50, 3) := by decide +kernel
theorem d_HS_loadSetup_32 : decode (mC m_HS_loadSetup) 32 = .ok (.invokevirtual 88, 3) := by decide +kernel
theorem d_HS_loadSetup_35 : decode (mC m_HS_loadSetup) 35 = .ok (.aload_n 0, 1) := by decide +kernel
theorem d_HS_loadSetup_36 : decode (mC m_HS_loadSetup) 36 = .ok (.getfield 50, 3) := by decide +kernel
theorem d_HS_loadSetup_39 : decode (mC m_HS_loadSetup) 39 = .ok (.aload_n 0, 1) := by decide +kernel
theorem d_HS_loadSetup_40 : decode (mC m_HS_loadSetup) 40 = .ok (.getfield 24, 3) := by decide +kernel
theorem d_HS_loadSetup_43 : decode (mC m_HS_loadSetup) 43 = .ok (.invokevirtual 92, 3) := by decide +kernel
theorem d_HS_loadSetup_46 : decode (mC m_HS_loadSetup) 46 = .ok (.aload_n 0, 1) := by decide +kernel
theorem d_HS_loadSetup_47 : decode (mC m_HS_loadSetup) 47 = .ok (.getfield 50, 3) := by decide +kernel
theorem d_HS_loadSetup_50 : decode (mC m_HS_loadSetup) 50 = .ok (.getfield 95, 3) := by decide +kernel
theorem d_HS_loadSetup_53 : decode (mC m_HS_loadSetup) 53 = .ok (.ireturn, 1) := by decide +kernel
set_option maxRecDepth 20000 in
set_option maxHeartbeats 1000000 in
theorem ce_HS_loadSetup {E : En} {h : Hp} {x ip bt pa rw sc b nb hy n : Nat} {F0 T P0 V : Nat → Int32} {q : Ps} {B : Bu} (hE : (eL E).stackTraces = false) (k_x : hK h x = 1) (r_x_0 : hR h x 0 = some pa) (r_x_1 : hR h x 1 = some ip) (r_x_2 : hR h x 2 = some nb) (r_x_3 : hR h x 3 = some b) (r_x_4 : hR h x 4 = some hy) (hI9 : InOk h ip bt) (hP9 : PaOk h pa ip rw sc) (nd : (ip :: bt :: pa :: rw :: ([] : List (Nat × (Nat → Int32))).map Prod.fst).Nodup) (hn : n ≤ 500) (hB : BuOk h b) (fo : ∀ a, a ∈ ip :: bt :: pa :: rw :: ([] : List (Nat × (Nat → Int32))).map Prod.fst → Fo h b a) (y1 : (Y_setup T n q V B).1 = false) : CT E m_HS_loadSetup [.ref x] (wL (wB h b B) ((ip, rF F0 n q.1) :: (bt, T) :: (pa, rP P0 q.2) :: (rw, V) :: [])) 1 6 (fun _ _ => False) (fun C h' => C = "java/lang/IllegalArgumentException" ∧ h' = wL (wB h b (Y_setup T n q V B).2.2.2) ((ip, rF F0 0 (Y_setup T n q V B).2.1.1) :: (bt, T) :: (pa, rP P0 (Y_setup T n q V B).2.1.2) :: (rw, (Y_setup T n q V B).2.2.1) :: [])) := by
  refine ct_of rfl (by decide +kernel) (Nat.le_of_ble_eq_true rfl) ?_
  show G E m_HS_loadSetup 0 [(0, .ref x)] [] (wL (wB h b B) ((ip, rF F0 n q.1) :: (bt, T) :: (pa, rP P0 q.2) :: (rw, V) :: [])) 1 6 _ _
  obtain ⟨k_ip, r_ip_0, k_bt, l_bt⟩ := id hI9
  obtain ⟨k_pa, -⟩ := id hP9
  refine g_aload_n (pc := 0) d_HS_loadSetup_0 rfl 0 rfl ?_
  refine g_getR (pc := 1) (ci := 0) (f := 0) (b := pa) rfl r_x_0 d_HS_loadSetup_1 fl_HS_10 (by decide) k_x ?_
  refine g_aload_n (pc := 4) d_HS_loadSetup_4 rfl 0 rfl ?_
  refine g_getR (pc := 5) (ci := 0) (f := 3) (b := b) rfl r_x_3 d_HS_loadSetup_5 fl_HS_24 (by decide) k_x ?_
  refine g_cV1 (pc := 8) (ci := 1) (As := [.ref _]) d_HS_loadSetup_8 rfl mv_PA_readSetup st_HS_loadSetup_80 rfl rfl (by decide) rfl rfl (Nat.le_of_ble_eq_true rfl) k_pa (cx_PA_readSetup hI9 hP9 nd hn hB fo) ?_
  refine g_istore_n (pc := 11) (lv' := [(1, .int (bI (Y_setup T n q V B).1)), (0, .ref x)]) d_HS_loadSetup_11 rfl (by decide) rfl ?_
  refine g_aload_n (pc := 12) d_HS_loadSetup_12 rfl 1 rfl ?_
  refine g_getR (pc := 13) (ci := 0) (f := 1) (b := ip) rfl r_x_1 d_HS_loadSetup_13 fl_HS_20 (by decide) k_x ?_
  refine g_iconst (pc := 16) (v := 0) d_HS_loadSetup_16 (by decide) ?_
  refine g_lpI0 (pc := 17) (ci := 2) (f := 1) rfl d_HS_loadSetup_17 fl_HS_53 (fun q hq => by cases hq; exact rfl) rfl rfl (by decide) k_ip nd ?_
  refine g_iload_n (pc := 20) d_HS_loadSetup_20 rfl 0 rfl ?_
  refine g_h (h' := wL (wB h b (Y_setup T n q V B).2.2.2) ((ip, rF F0 0 (Y_setup T n q V B).2.1.1) :: (bt, T) :: (pa, rP P0 (Y_setup T n q V B).2.1.2) :: (rw, (Y_setup T n q V B).2.2.1) :: [])) (by rw [TF_len']) ?_
  refine g_top (y := 0) (by rw [y1]; rfl) ?_
  exact g_eS (k := 0) (n := 0) (pc := 21) (As := [.int _]) d_HS_loadSetup_21 rfl ms_HS_requireGoodText st_HS_loadSetup_84 rfl rfl (Nat.le_of_ble_eq_true rfl) (ce_HS_requireGoodText hE) ⟨rfl, rfl⟩
set_option maxRecDepth 20000 in
set_option maxHeartbeats 1000000 in
theorem cs_HS_loadSetup {E : En} {h : Hp} {x ip bt pa rw sc b nb hy n : Nat} {F0 T P0 V : Nat → Int32} {q : Ps} {B : Bu} {nw sc2 ni U : Nat} {Q : Hp → Prop} (k_x : hK h x = 1) (r_x_0 : hR h x 0 = some pa) (r_x_1 : hR h x 1 = some ip) (r_x_2 : hR h x 2 = some nb) (r_x_3 : hR h x 3 = some b) (r_x_4 : hR h x 4 = some hy) (hI9 : InOk h ip bt) (hP9 : PaOk h pa ip rw sc) (nd : (ip :: bt :: pa :: rw :: ([] : List (Nat × (Nat → Int32))).map Prod.fst).Nodup) (hn : n ≤ 500) (hB : BuOk h b) (fo : ∀ a, a ∈ ip :: bt :: pa :: rw :: ([] : List (Nat × (Nat → Int32))).map Prod.fst → Fo h b a) (y1 : (Y_setup T n q V B).1 = true) (k_hy : hK h hy = 7) (hG : Gd (Y_setup T n q V B).2.2.2 nw sc2 ni U) (hRm : CT E m_HI_remember [.ref hy, .ref nb] (wL (wB h b (Y_setup T n q V B).2.2.2) ((ip, rF F0 0 (Y_setup T n q V B).2.1.1) :: (bt, T) :: (pa, rP P0 (Y_setup T n q V B).2.1.2) :: (rw, (Y_setup T n q V B).2.2.1) :: [])) 11 156 (fun v h9 => v = none ∧ Q h9) noX) (hQ : ∀ h9, Q h9 → BuOk h9 nb ∧ BuOk h9 b ∧ vB h9 b = (Y_setup T n q V B).2.2.2 ∧ Dis h9 nb b ∧ hR h9 x = hR h x ∧ hK h9 x = hK h x) : CT E m_HS_loadSetup [.ref x] (wL (wB h b B) ((ip, rF F0 n q.1) :: (bt, T) :: (pa, rP P0 q.2) :: (rw, V) :: [])) 11 156 (fun v h1 => ∃ h9, Q h9 ∧ v = some (.int ((Y_setup T n q V B).2.2.2.1 8)) ∧ h1 = wB h9 nb (P_copy nw sc2 (vB h9 nb) (Y_setup T n q V B).2.2.2)) noX := by
  refine ct_of rfl (by decide +kernel) (Nat.le_of_ble_eq_true rfl) ?_
  show G E m_HS_loadSetup 0 [(0, .ref x)] [] (wL (wB h b B) ((ip, rF F0 n q.1) :: (bt, T) :: (pa, rP P0 q.2) :: (rw, V) :: [])) 11 156 _ noX
  obtain ⟨k_ip, r_ip_0, k_bt, l_bt⟩ := id hI9
  obtain ⟨k_pa, -⟩ := id hP9
  refine g_aload_n (pc := 0) d_HS_loadSetup_0 rfl 0 rfl ?_
  refine g_getR (pc := 1) (ci := 0) (f := 0) (b := pa) rfl r_x_0 d_HS_loadSetup_1 fl_HS_10 (by decide) k_x ?_
  refine g_aload_n (pc := 4) d_HS_loadSetup_4 rfl 0 rfl ?_
  refine g_getR (pc := 5) (ci := 0) (f := 3) (b := b) rfl r_x_3 d_HS_loadSetup_5 fl_HS_24 (by decide) k_x ?_
  refine g_cV1 (pc := 8) (ci := 1) (As := [.ref _]) d_HS_loadSetup_8 rfl mv_PA_readSetup st_HS_loadSetup_80 rfl rfl (by decide) rfl rfl (Nat.le_of_ble_eq_true rfl) k_pa (cx_PA_readSetup hI9 hP9 nd hn hB fo) ?_
  refine g_istore_n (pc := 11) (lv' := [(1, .int (bI (Y_setup T n q V B).1)), (0, .ref x)]) d_HS_loadSetup_11 rfl (by decide) rfl ?_
  refine g_aload_n (pc := 12) d_HS_loadSetup_12 rfl 1 rfl ?_
  refine g_getR (pc := 13) (ci := 0) (f := 1) (b := ip) rfl r_x_1 d_HS_loadSetup_13 fl_HS_20 (by decide) k_x ?_
  refine g_iconst (pc := 16) (v := 0) d_HS_loadSetup_16 (by decide) ?_
  refine g_lpI0 (pc := 17) (ci := 2) (f := 1) rfl d_HS_loadSetup_17 fl_HS_53 (fun q hq => by cases hq; exact rfl) rfl rfl (by decide) k_ip nd ?_
  refine g_iload_n (pc := 20) d_HS_loadSetup_20 rfl 0 rfl ?_
  refine g_h (h' := wL (wB h b (Y_setup T n q V B).2.2.2) ((ip, rF F0 0 (Y_setup T n q V B).2.1.1) :: (bt, T) :: (pa, rP P0 (Y_setup T n q V B).2.1.2) :: (rw, (Y_setup T n q V B).2.2.1) :: [])) (by rw [TF_len']) ?_
  refine g_top (y := 1) (by rw [y1]; rfl) ?_
  refine g_cS0 (pc := 21) (As := [.int _]) d_HS_loadSetup_21 rfl ms_HS_requireGoodText st_HS_loadSetup_84 rfl rfl (Nat.le_of_ble_eq_true rfl) (cs_HS_requireGoodText ) ?_
  refine g_aload_n (pc := 24) d_HS_loadSetup_24 rfl 1 rfl ?_
  refine g_getR (pc := 25) (ci := 0) (f := 4) (b := hy) rfl r_x_4 d_HS_loadSetup_25 fl_HS_31 (by decide) k_x ?_
  refine g_aload_n (pc := 28) d_HS_loadSetup_28 rfl 1 rfl ?_
  refine g_getR (pc := 29) (ci := 0) (f := 2) (b := nb) rfl r_x_2 d_HS_loadSetup_29 fl_HS_50 (by decide) k_x ?_
  refine g_callV (k := 0) (n := 0) (kz := 11) (nz := 156) (pc := 32) (ci := 6) (As := [.ref _]) d_HS_loadSetup_32 rfl mv_HI_remember st_HS_loadSetup_88 rfl rfl (by decide) k_hy rfl rfl (Nat.le_of_ble_eq_true rfl) hRm (fun _ _ z => z.elim) (fun v h9 z => ?_)
  obtain ⟨rfl, q9⟩ := z
  clear hB
  obtain ⟨hN, hB, v9, hD, x9, k9⟩ := hQ h9 q9
  have k_x := k9.trans k_x
  have r_x_2 := (congrFun x9 2).trans r_x_2
  have r_x_3 := (congrFun x9 3).trans r_x_3
  rw [← v9] at hG
  obtain ⟨hw9, hn9, hs9, hm9, -, -, -, -, hop9⟩ := id hG.1
  refine g_aload_n (pc := 35) d_HS_loadSetup_35 rfl 1 rfl ?_
  refine g_getR (pc := 36) (ci := 0) (f := 2) (b := nb) rfl r_x_2 d_HS_loadSetup_36 fl_HS_50 (by decide) k_x ?_
  refine g_aload_n (pc := 39) d_HS_loadSetup_39 rfl 1 rfl ?_
  refine g_getR (pc := 40) (ci := 0) (f := 3) (b := b) rfl r_x_3 d_HS_loadSetup_40 fl_HS_24 (by decide) k_x ?_
  refine g_h (h' := wB h9 nb (vB h9 nb)) wB_v.symm ?_
  refine g_cV0 (pc := 43) (ci := 4) (As := [.ref _]) d_HS_loadSetup_43 rfl mv_BU_copyFrom st_HS_loadSetup_92 rfl rfl (by decide) rfl rfl (Nat.le_of_ble_eq_true rfl) hN.1 (cb_copyFrom hN hB hD hw9 hn9 hs9 hm9 hop9) ?_
  rw [v9]
  refine g_aload_n (pc := 46) d_HS_loadSetup_46 rfl 1 rfl ?_
  refine g_getR (pc := 47) (ci := 0) (f := 2) (b := nb) rfl r_x_2 d_HS_loadSetup_47 fl_HS_50 (by decide) k_x ?_
  refine g_bgI (pc := 50) (f := 8) rfl d_HS_loadSetup_50 fl_HS_95 hN ?_
  refine g_top (y := (Y_setup T n q V B).2.2.2.1 8) (P_copy_c (by decide)) ?_
  refine g_iret (pc := 53) d_HS_loadSetup_53 rfl ?_
  exact ⟨h9, q9, rfl, rfl⟩
theorem d_HS_runScript_0 : decode (mC m_HS_runScript) 0 = .ok (.aload_n 0, 1) := by decide +kernel
theorem d_HS_runScript_1 : decode (mC m_HS_runScript) 1 = .ok (.getfield 10, 3) := by decide +kernel
theorem d_HS_runScript_4 : decode (mC m_HS_runScript) 4 = .ok (.aload_n 0, 1) := by decide +kernel
theorem d_HS_runScript_5 : decode (mC m_HS_runScript) 5 = .ok (.getfield 50, 3) := by decide +kernel
theorem d_HS_runScript_8 : decode (mC m_HS_runScript) 8 = .ok (.getfield 95, 3) := by decide +kernel
theorem d_HS_runScript_11 : decode (mC m_HS_runScript) 11 = .ok (.invokevirtual 98, 3) := by decide +kernel
theorem d_HS_runScript_14 : decode (mC m_HS_runScript) 14 = .ok (.istore_n 1, 1) := by decide +kernel
theorem d_HS_runScript_15 : decode (mC m_HS_runScript) 15 = .ok (.aload_n 0, 1) := by decide +kernel
theorem d_HS_runScript_16 : decode (mC m_HS_runScript) 16 = .ok (.getfield 20, 3) := by decide +kernel
theorem d_HS_runScript_19 : decode (mC m_HS_runScript) 19 = .ok (.iconst 0, 1) := by decide +kernel
theorem d_HS_runScript_20 : decode (mC m_HS_runScript) 20 = .ok (.putfield 53, 3) := by decide +kernel
theorem d_HS_runScript_23 : decode (mC m_HS_runScript) 23 = .ok (.iload_n 1, 1) := by decide +kernel
theorem d_HS_runScript_24 : decode (mC m_HS_runScript) 24 = .ok (.invokestatic 84, 3) := by decide +kernel
theorem d_HS_runScript_27 : decode (mC m_HS_runScript) 27 = .ok (.aload_n 0, 1) := by decide +kernel
theorem d_HS_runScript_28 : decode (mC m_HS_runScript) 28 = .ok (.getfield 31, 3) := by decide +kernel
theorem d_HS_runScript_31 : decode (mC m_HS_runScript) 31 = .ok (.aload_n 0, 1) := by decide +kernel
theorem d_HS_runScript_32 : decode (mC m_HS_runScript) 32 = .ok (.getfield 50, 3) := by decide +kernel
theorem d_HS_runScript_35 : decode (mC m_HS_runScript) 35 = .ok (.invokevirtual 88, 3) := by decide +kernel
theorem d_HS_runScript_38 : decode (mC m_HS_runScript) 38 = .ok (.aload_n 0, 1) := by decide +kernel
theorem d_HS_runScript_39 : decode (mC m_HS_runScript) 39 = .ok (.getfield 10, 3) := by decide +kernel
theorem d_HS_runScript_42 : decode (mC m_HS_runScript) 42 = .ok (.getfield 102, 3) := by decide +kernel
theorem d_HS_runScript_45 : decode (mC m_HS_runScript) 45 = .ok (.astore_n 2, 1) := by decide +kernel
theorem d_HS_runScript_46 : decode (mC m_HS_runScript) 46 = .ok (.iconst 0, 1) := by decide +kernel
theorem d_HS_runScript_47 : decode (mC m_HS_runScript) 47 = .ok (.istore_n 3, 1) := by decide +kernel
theorem d_HS_runScript_48 : decode (mC m_HS_runScript) 48 = .ok (.iload_n 3, 1) := by decide +kernel
theorem d_HS_runScript_49 : decode (mC m_HS_runScript) 49 = .ok (.aload_n 2, 1) := by decide +kernel
theorem d_HS_runScript_50 : decode (mC m_HS_runScript) 50 = .ok (.getfield 106, 3) := by decide +kernel
theorem d_HS_runScript_53 : decode (mC m_HS_runScript) 53 = .ok (.if_icmp .ge 21, 3) := by decide +kernel
theorem d_HS_runScript_56 : decode (mC m_HS_runScript) 56 = .ok (.aload_n 0, 1) := by decide +kernel
theorem d_HS_runScript_57 : decode (mC m_HS_runScript) 57 = .ok (.getfield 50, 3) := by decide +kernel
theorem d_HS_runScript_60 : decode (mC m_HS_runScript) 60 = .ok (.aload_n 2, 1) := by decide +kernel
theorem d_HS_runScript_61 : decode (mC m_HS_runScript) 61 = .ok (.iload_n 3, 1) := by decide +kernel
theorem d_HS_runScript_62 : decode (mC m_HS_runScript) 62 = .ok (.invokevirtual 111, 3) := by decide +kernel
theorem d_HS_runScript_65 : decode (mC m_HS_runScript) 65 = .ok (.ifCond .eq 9, 3) := by decide +kernel
theorem d_HS_runScript_68 : decode (mC m_HS_runScript) 68 = .ok (.iinc 3 1, 3) := by decide +kernel
theorem d_HS_runScript_71 : decode (mC m_HS_runScript) 71 = .ok (.goto (-23), 3) := by decide +kernel
theorem d_HS_runScript_74 : decode (mC m_HS_runScript) 74 = .ok (.iload_n 3, 1) := by decide +kernel
theorem d_HS_runScript_75 : decode (mC m_HS_runScript) 75 = .ok (.ireturn, 1) := by decide +kernel
theorem Y_script_le {T : Nat → Int32} {n : Nat} {c : Int32} : ∀ (d : Nat) (q : Ps) (S : Sq), S.1 ≤ 20 → (Y_cmds T n c d q S).2.2.1 ≤ 20
  | 0, q, S, h => by rw [Y_cmds]; split <;> exact h
  | d + 1, q, S, h => by
    rw [Y_cmds]
    split
    · exact h
    · split
      · exact Y_script_le d _ _ (le_cmd h)
      · exact le_cmd h
set_option maxRecDepth 20000 in
set_option maxHeartbeats 1000000 in
theorem ce_HS_runScript {E : En} {h : Hp} {x ip bt pa rw sa va sb na b hy n : Nat} {F0 T P0 V S0 : Nat → Int32} {q : Ps} {S : Sq} {B : Bu} (hE : (eL E).stackTraces = false) (k_x : hK h x = 1) (r_x_0 : hR h x 0 = some pa) (r_x_1 : hR h x 1 = some ip) (r_x_2 : hR h x 2 = some b) (r_x_4 : hR h x 4 = some hy) (hI9 : InOk h ip bt) (hP9 : PaOk h pa ip rw sa) (hS9 : ScOk h sa va sb na) (nd : (ip :: bt :: pa :: rw :: sa :: va :: sb :: na :: ([] : List (Nat × (Nat → Int32))).map Prod.fst).Nodup) (hn : n ≤ 500) (hB : BuOk h b) (fo : ∀ a, a ∈ ip :: bt :: pa :: rw :: sa :: va :: sb :: na :: ([] : List (Nat × (Nat → Int32))).map Prod.fst → Fo h b a) (y1 : (Y_script T n (B.1 8) q S).1 = false) : CT E m_HS_runScript [.ref x] (wL (wB h b B) ((ip, rF F0 n q.1) :: (bt, T) :: (pa, rP P0 q.2) :: (rw, V) :: (sa, rS S0 S.1) :: (va, S.2.1) :: (sb, S.2.2.1) :: (na, S.2.2.2) :: [])) 1 6 (fun _ _ => False) (fun C h' => C = "java/lang/IllegalArgumentException" ∧ h' = wL (wB h b B) ((ip, rF F0 0 (Y_script T n (B.1 8) q S).2.1.1) :: (bt, T) :: (pa, rP P0 (Y_script T n (B.1 8) q S).2.1.2) :: (rw, V) :: (sa, rS S0 (Y_script T n (B.1 8) q S).2.2.1) :: (va, (Y_script T n (B.1 8) q S).2.2.2.1) :: (sb, (Y_script T n (B.1 8) q S).2.2.2.2.1) :: (na, (Y_script T n (B.1 8) q S).2.2.2.2.2) :: [])) := by
  refine ct_of rfl (by decide +kernel) (Nat.le_of_ble_eq_true rfl) ?_
  show G E m_HS_runScript 0 [(0, .ref x)] [] (wL (wB h b B) ((ip, rF F0 n q.1) :: (bt, T) :: (pa, rP P0 q.2) :: (rw, V) :: (sa, rS S0 S.1) :: (va, S.2.1) :: (sb, S.2.2.1) :: (na, S.2.2.2) :: [])) 1 6 _ _
  obtain ⟨k_ip, r_ip_0, k_bt, l_bt⟩ := id hI9
  obtain ⟨k_pa, -⟩ := id hP9
  refine g_aload_n (pc := 0) d_HS_runScript_0 rfl 0 rfl ?_
  refine g_getR (pc := 1) (ci := 0) (f := 0) (b := pa) rfl r_x_0 d_HS_runScript_1 fl_HS_10 (by decide) k_x ?_
  refine g_aload_n (pc := 4) d_HS_runScript_4 rfl 0 rfl ?_
  refine g_getR (pc := 5) (ci := 0) (f := 2) (b := b) rfl r_x_2 d_HS_runScript_5 fl_HS_50 (by decide) k_x ?_
  refine g_h (h' := wB (wL h ((ip, rF F0 n q.1) :: (bt, T) :: (pa, rP P0 q.2) :: (rw, V) :: (sa, rS S0 S.1) :: (va, S.2.1) :: (sb, S.2.2.1) :: (na, S.2.2.2) :: [])) b B) (wB_wL (L := ((ip, rF F0 n q.1) :: (bt, T) :: (pa, rP P0 q.2) :: (rw, V) :: (sa, rS S0 S.1) :: (va, S.2.1) :: (sb, S.2.2.1) :: (na, S.2.2.2) :: [])) fo).symm ?_
  refine g_bgI (b := b) (pc := 8) (f := 8) rfl d_HS_runScript_8 fl_HS_95 hB ?_
  refine g_h (h' := wL (wB h b B) ((ip, rF F0 n q.1) :: (bt, T) :: (pa, rP P0 q.2) :: (rw, V) :: (sa, rS S0 S.1) :: (va, S.2.1) :: (sb, S.2.2.1) :: (na, S.2.2.2) :: [])) (wB_wL (L := ((ip, rF F0 n q.1) :: (bt, T) :: (pa, rP P0 q.2) :: (rw, V) :: (sa, rS S0 S.1) :: (va, S.2.1) :: (sb, S.2.2.1) :: (na, S.2.2.2) :: [])) fo) ?_
  refine g_cV1 (pc := 11) (ci := 1) (As := [.int _]) d_HS_runScript_11 rfl mv_PA_readScript st_HS_runScript_98 rfl rfl (by decide) rfl rfl (Nat.le_of_ble_eq_true rfl) k_pa (cx_PA_readScript (c := B.1 8) hI9 hP9 hS9 nd hn) ?_
  refine g_istore_n (pc := 14) (lv' := [(1, .int (bI (Y_script T n (B.1 8) q S).1)), (0, .ref x)]) d_HS_runScript_14 rfl (by decide) rfl ?_
  refine g_aload_n (pc := 15) d_HS_runScript_15 rfl 1 rfl ?_
  refine g_getR (pc := 16) (ci := 0) (f := 1) (b := ip) rfl r_x_1 d_HS_runScript_16 fl_HS_20 (by decide) k_x ?_
  refine g_iconst (pc := 19) (v := 0) d_HS_runScript_19 (by decide) ?_
  refine g_lpI0 (pc := 20) (ci := 2) (f := 1) rfl d_HS_runScript_20 fl_HS_53 (fun q hq => by cases hq; exact rfl) rfl rfl (by decide) k_ip nd ?_
  refine g_iload_n (pc := 23) d_HS_runScript_23 rfl 0 rfl ?_
  refine g_h (h' := wL (wB h b B) ((ip, rF F0 0 (Y_script T n (B.1 8) q S).2.1.1) :: (bt, T) :: (pa, rP P0 (Y_script T n (B.1 8) q S).2.1.2) :: (rw, V) :: (sa, rS S0 (Y_script T n (B.1 8) q S).2.2.1) :: (va, (Y_script T n (B.1 8) q S).2.2.2.1) :: (sb, (Y_script T n (B.1 8) q S).2.2.2.2.1) :: (na, (Y_script T n (B.1 8) q S).2.2.2.2.2) :: [])) (by rw [TF_len']) ?_
  refine g_top (y := 0) (by rw [y1]; rfl) ?_
  exact g_eS (k := 0) (n := 0) (pc := 24) (As := [.int _]) d_HS_runScript_24 rfl ms_HS_requireGoodText st_HS_runScript_84 rfl rfl (Nat.le_of_ble_eq_true rfl) (ce_HS_requireGoodText hE) ⟨rfl, rfl⟩
set_option maxRecDepth 20000 in
theorem lp_HS_run {E : En} {h9 : Hp} {x b sa va sb na nw sc ni cnt k n : Nat} {x1 : Int32} {S : Sq} {PP : Option Value → Hp → Prop} (k_x : hK h9 x = 1) (r_x_2 : hR h9 x 2 = some b) (hB : BuOk h9 b) (hS9 : ScOk h9 sa va sb na) (hc : hI h9 sa 3 = nI cnt) (e1 : hI h9 va = S.2.1) (e2 : hI h9 sb = S.2.2.1) (e3 : hI h9 na = S.2.2.2) (f1 : Fo h9 b va) (f2 : Fo h9 b sb) (f3 : Fo h9 b na) (c20 : cnt ≤ 20) (hS : S.1 = cnt) (hq : SqOk sc S) : ∀ (d i U : Nat) (B : Bu), i + d = cnt → Gd B nw sc ni U → U + 101 * d ≤ 1999999000 → PP (some (.int (nI (P_run nw sc ni S d i B).1))) (wB h9 b (P_run nw sc ni S d i B).2) → G E m_HS_runScript 48 [(3, .int (nI i)), (2, .ref sa), (1, .int x1), (0, .ref x)] [] (wB h9 b B) k n PP noX := by
  obtain ⟨k_sa, r_sa_0, r_sa_1, r_sa_2, k_va, l_va, k_sb, l_sb, k_na, l_na⟩ := id hS9
  have fo : ∀ B : Bu, hI (wB h9 b B) sa 3 = nI cnt := fun B => by rw [hI_fo (Fo.kind hB (by omega) (by omega) (by omega))]; exact hc
  intro d
  induction d with
  | zero =>
    intro i U B hd hG hU kk
    refine g_iload_n (pc := 48) d_HS_runScript_48 rfl 0 rfl ?_
    refine g_aload_n (pc := 49) d_HS_runScript_49 rfl 1 rfl ?_
    refine g_getIX (pc := 50) (ci := 3) (f := 3) (nI cnt) rfl d_HS_runScript_50 fl_HS_106 (by decide) k_sa (fo B) ?_
    refine g_icmp_ge (pc := 53) (tgt := 74) d_HS_runScript_53 (by decide) (fun c_53 => ?_) (fun c_53 => ?_)
    · skip
      refine g_iload_n (pc := 74) d_HS_runScript_74 rfl 0 rfl ?_
      refine g_iret (pc := 75) d_HS_runScript_75 rfl ?_
      exact kk
    · exact absurd ((nI_leI (a := cnt) (b := i) (by omega) (by omega)).mpr (by omega)) c_53
  | succ d ih =>
    intro i U B hd hG hU kk
    obtain ⟨v, a, nm, h6, z1, z2, z3, hn, ha0, ha⟩ := hq i (by omega)
    have h0 : 0 < sc := hG.1.2.2.2.2.1
    have ha9 : a < sc := by
      by_cases e : v = 0
      · rw [ha0 e]; exact h0
      · exact ha e
    have ey := P_run_S (nw := nw) (sc := sc) (ni := ni) (d := d) (B := B) z1 z2 z3 h6 (P_arg ha0 ha hG.1.2.2.2.1)
    have hG2 := Gd_do (v := v) (a := a) hG (by omega) ha hn
    rw [ey] at kk
    refine g_iload_n (pc := 48) d_HS_runScript_48 rfl 0 rfl ?_
    refine g_aload_n (pc := 49) d_HS_runScript_49 rfl 1 rfl ?_
    refine g_getIX (pc := 50) (ci := 3) (f := 3) (nI cnt) rfl d_HS_runScript_50 fl_HS_106 (by decide) k_sa (fo B) ?_
    refine g_icmp_ge (pc := 53) (tgt := 74) d_HS_runScript_53 (by decide) (fun c_53 => ?_) (fun c_53 => ?_)
    · exact absurd ((nI_leI (a := cnt) (b := i) (by omega) (by omega)).mp c_53) (by omega)
    · skip
      refine g_aload_n (pc := 56) d_HS_runScript_56 rfl 3 rfl ?_
      refine g_getR (pc := 57) (ci := 0) (f := 2) (b := b) rfl r_x_2 d_HS_runScript_57 fl_HS_50 (by decide) k_x ?_
      refine g_aload_n (pc := 60) d_HS_runScript_60 rfl 1 rfl ?_
      refine g_iload_n (pc := 61) d_HS_runScript_61 rfl 0 rfl ?_
      refine g_cV1 (pc := 62) (ci := 4) (As := [.ref _, .int _]) d_HS_runScript_62 rfl mv_BU_perform st_HS_runScript_111 rfl rfl (by decide) rfl rfl (Nat.le_of_ble_eq_true rfl) hB.1 (cb_perform (v := v) (a := a) (num := nI nm) hB hG.1 k_sa r_sa_0 r_sa_1 r_sa_2 k_va l_va k_sb l_sb k_na l_na f1 f2 f3 (by rw [e1]; exact z1) (by rw [e2]; exact z2) (by rw [e3]; exact z3) (by omega) h6 ha9 (fun _ => ⟨nm, by omega, rfl⟩)) ?_
      refine g_if_eq (pc := 65) (tgt := 74) d_HS_runScript_65 (by decide) (fun c_65 => ?_) (fun c_65 => ?_)
      · skip
        have y1 : ¬ (P_do nw sc ni v a (nI nm) B).1 = true := by rw [bI_0.mp c_65]; decide
        refine g_iload_n (pc := 74) d_HS_runScript_74 rfl 0 rfl ?_
        refine g_iret (pc := 75) d_HS_runScript_75 rfl ?_
        rw [if_neg y1] at kk
        exact kk
      · skip
        have y1 : (P_do nw sc ni v a (nI nm) B).1 = true := bI_n0 c_65
        obtain ⟨x_1, hx_1⟩ : ∃ y : Int32, y = (nI i) + 1 := ⟨_, rfl⟩
        refine g_iinc (pc := 68) (w := 0) (v := x_1) (lv' := [(3, .int x_1), (2, .ref sa), (1, .int x1), (0, .ref x)]) d_HS_runScript_68 rfl (by rw [hx_1]; rfl) (by decide) rfl ?_
        refine g_goto (pc := 71) (tgt := 48) d_HS_runScript_71 (by decide) ?_
        have e8 : x_1 = nI (i + 1) := by rw [hx_1]; exact nI_1 _
        clear hx_1
        subst e8
        rw [if_pos y1] at kk
        refine g_perm [0, 1, 2, 3] rfl ?_
        exact ih (i + 1) (U + nm + 1) _ (by omega) hG2 (by omega) kk
set_option maxRecDepth 20000 in
set_option maxHeartbeats 1000000 in
theorem cs_HS_runScript {E : En} {h : Hp} {x ip bt pa rw sa va sb na b hy n : Nat} {F0 T P0 V S0 : Nat → Int32} {q : Ps} {S : Sq} {B : Bu} {nw sc ni U : Nat} {Q : Hp → Prop} (k_x : hK h x = 1) (r_x_0 : hR h x 0 = some pa) (r_x_1 : hR h x 1 = some ip) (r_x_2 : hR h x 2 = some b) (r_x_4 : hR h x 4 = some hy) (hI9 : InOk h ip bt) (hP9 : PaOk h pa ip rw sa) (hS9 : ScOk h sa va sb na) (nd : (ip :: bt :: pa :: rw :: sa :: va :: sb :: na :: ([] : List (Nat × (Nat → Int32))).map Prod.fst).Nodup) (hn : n ≤ 500) (hB : BuOk h b) (fo : ∀ a, a ∈ ip :: bt :: pa :: rw :: sa :: va :: sb :: na :: ([] : List (Nat × (Nat → Int32))).map Prod.fst → Fo h b a) (y1 : (Y_script T n (B.1 8) q S).1 = true) (k_hy : hK h hy = 7) (hG : Gd B nw sc ni U) (hU : U ≤ 1999990000) (hRm : CT E m_HI_remember [.ref hy, .ref b] (wL (wB h b B) ((ip, rF F0 0 (Y_script T n (B.1 8) q S).2.1.1) :: (bt, T) :: (pa, rP P0 (Y_script T n (B.1 8) q S).2.1.2) :: (rw, V) :: (sa, rS S0 (Y_script T n (B.1 8) q S).2.2.1) :: (va, (Y_script T n (B.1 8) q S).2.2.2.1) :: (sb, (Y_script T n (B.1 8) q S).2.2.2.2.1) :: (na, (Y_script T n (B.1 8) q S).2.2.2.2.2) :: [])) 11 156 (fun v h9 => v = none ∧ Q h9) noX) (hQ : ∀ h9, Q h9 → BuOk h9 b ∧ vB h9 b = B ∧ ScOk h9 sa va sb na ∧ (hK h9 pa = 2 ∧ hR h9 pa 1 = some sa) ∧ (hI h9 sa 3 = nI (Y_script T n (B.1 8) q S).2.2.1 ∧ hI h9 va = (Y_script T n (B.1 8) q S).2.2.2.1 ∧ hI h9 sb = (Y_script T n (B.1 8) q S).2.2.2.2.1 ∧ hI h9 na = (Y_script T n (B.1 8) q S).2.2.2.2.2) ∧ (Fo h9 b va ∧ Fo h9 b sb ∧ Fo h9 b na) ∧ hR h9 x = hR h x ∧ hK h9 x = hK h x) : CT E m_HS_runScript [.ref x] (wL (wB h b B) ((ip, rF F0 n q.1) :: (bt, T) :: (pa, rP P0 q.2) :: (rw, V) :: (sa, rS S0 S.1) :: (va, S.2.1) :: (sb, S.2.2.1) :: (na, S.2.2.2) :: [])) 11 156 (fun v h1 => ∃ h9, Q h9 ∧ v = some (.int (nI (P_run nw sc ni (Y_script T n (B.1 8) q S).2.2 (Y_script T n (B.1 8) q S).2.2.1 0 B).1)) ∧ h1 = wB h9 b (P_run nw sc ni (Y_script T n (B.1 8) q S).2.2 (Y_script T n (B.1 8) q S).2.2.1 0 B).2) noX := by
  refine ct_of rfl (by decide +kernel) (Nat.le_of_ble_eq_true rfl) ?_
  show G E m_HS_runScript 0 [(0, .ref x)] [] (wL (wB h b B) ((ip, rF F0 n q.1) :: (bt, T) :: (pa, rP P0 q.2) :: (rw, V) :: (sa, rS S0 S.1) :: (va, S.2.1) :: (sb, S.2.2.1) :: (na, S.2.2.2) :: [])) 11 156 _ noX
  obtain ⟨k_ip, r_ip_0, k_bt, l_bt⟩ := id hI9
  obtain ⟨k_pa, -⟩ := id hP9
  have es : B.1 8 = nI sc := hG.1.2.2.1
  have c20 : (Y_script T n (B.1 8) q S).2.2.1 ≤ 20 := Y_script_le 20 _ _ (Nat.zero_le _)
  have hsq : SqOk sc (Y_script T n (B.1 8) q S).2.2 := by
    have y2 := y1
    rw [es] at y2 ⊢
    exact (SqOk_script hG.1.2.2.2.1 y2).1
  refine g_aload_n (pc := 0) d_HS_runScript_0 rfl 0 rfl ?_
  refine g_getR (pc := 1) (ci := 0) (f := 0) (b := pa) rfl r_x_0 d_HS_runScript_1 fl_HS_10 (by decide) k_x ?_
  refine g_aload_n (pc := 4) d_HS_runScript_4 rfl 0 rfl ?_
  refine g_getR (pc := 5) (ci := 0) (f := 2) (b := b) rfl r_x_2 d_HS_runScript_5 fl_HS_50 (by decide) k_x ?_
  refine g_h (h' := wB (wL h ((ip, rF F0 n q.1) :: (bt, T) :: (pa, rP P0 q.2) :: (rw, V) :: (sa, rS S0 S.1) :: (va, S.2.1) :: (sb, S.2.2.1) :: (na, S.2.2.2) :: [])) b B) (wB_wL (L := ((ip, rF F0 n q.1) :: (bt, T) :: (pa, rP P0 q.2) :: (rw, V) :: (sa, rS S0 S.1) :: (va, S.2.1) :: (sb, S.2.2.1) :: (na, S.2.2.2) :: [])) fo).symm ?_
  refine g_bgI (b := b) (pc := 8) (f := 8) rfl d_HS_runScript_8 fl_HS_95 hB ?_
  refine g_h (h' := wL (wB h b B) ((ip, rF F0 n q.1) :: (bt, T) :: (pa, rP P0 q.2) :: (rw, V) :: (sa, rS S0 S.1) :: (va, S.2.1) :: (sb, S.2.2.1) :: (na, S.2.2.2) :: [])) (wB_wL (L := ((ip, rF F0 n q.1) :: (bt, T) :: (pa, rP P0 q.2) :: (rw, V) :: (sa, rS S0 S.1) :: (va, S.2.1) :: (sb, S.2.2.1) :: (na, S.2.2.2) :: [])) fo) ?_
  refine g_cV1 (pc := 11) (ci := 1) (As := [.int _]) d_HS_runScript_11 rfl mv_PA_readScript st_HS_runScript_98 rfl rfl (by decide) rfl rfl (Nat.le_of_ble_eq_true rfl) k_pa (cx_PA_readScript (c := B.1 8) hI9 hP9 hS9 nd hn) ?_
  refine g_istore_n (pc := 14) (lv' := [(1, .int (bI (Y_script T n (B.1 8) q S).1)), (0, .ref x)]) d_HS_runScript_14 rfl (by decide) rfl ?_
  refine g_aload_n (pc := 15) d_HS_runScript_15 rfl 1 rfl ?_
  refine g_getR (pc := 16) (ci := 0) (f := 1) (b := ip) rfl r_x_1 d_HS_runScript_16 fl_HS_20 (by decide) k_x ?_
  refine g_iconst (pc := 19) (v := 0) d_HS_runScript_19 (by decide) ?_
  refine g_lpI0 (pc := 20) (ci := 2) (f := 1) rfl d_HS_runScript_20 fl_HS_53 (fun q hq => by cases hq; exact rfl) rfl rfl (by decide) k_ip nd ?_
  refine g_iload_n (pc := 23) d_HS_runScript_23 rfl 0 rfl ?_
  refine g_h (h' := wL (wB h b B) ((ip, rF F0 0 (Y_script T n (B.1 8) q S).2.1.1) :: (bt, T) :: (pa, rP P0 (Y_script T n (B.1 8) q S).2.1.2) :: (rw, V) :: (sa, rS S0 (Y_script T n (B.1 8) q S).2.2.1) :: (va, (Y_script T n (B.1 8) q S).2.2.2.1) :: (sb, (Y_script T n (B.1 8) q S).2.2.2.2.1) :: (na, (Y_script T n (B.1 8) q S).2.2.2.2.2) :: [])) (by rw [TF_len']) ?_
  refine g_top (y := 1) (by rw [y1]; rfl) ?_
  refine g_cS0 (pc := 24) (As := [.int _]) d_HS_runScript_24 rfl ms_HS_requireGoodText st_HS_runScript_84 rfl rfl (Nat.le_of_ble_eq_true rfl) (cs_HS_requireGoodText ) ?_
  refine g_aload_n (pc := 27) d_HS_runScript_27 rfl 1 rfl ?_
  refine g_getR (pc := 28) (ci := 0) (f := 4) (b := hy) rfl r_x_4 d_HS_runScript_28 fl_HS_31 (by decide) k_x ?_
  refine g_aload_n (pc := 31) d_HS_runScript_31 rfl 1 rfl ?_
  refine g_getR (pc := 32) (ci := 0) (f := 2) (b := b) rfl r_x_2 d_HS_runScript_32 fl_HS_50 (by decide) k_x ?_
  refine g_callV (k := 0) (n := 0) (kz := 11) (nz := 156) (pc := 35) (ci := 6) (As := [.ref _]) d_HS_runScript_35 rfl mv_HI_remember st_HS_runScript_88 rfl rfl (by decide) k_hy rfl rfl (Nat.le_of_ble_eq_true rfl) hRm (fun _ _ z => z.elim) (fun v h9 z => ?_)
  obtain ⟨rfl, q9⟩ := z
  clear hB k_pa
  obtain ⟨hB, v9, hS8, ⟨k_pa, r_pa_1⟩, ⟨i1, i2, i3, i4⟩, ⟨f1, f2, f3⟩, x9, k9⟩ := hQ h9 q9
  have k_x := k9.trans k_x
  have r_x_0 := (congrFun x9 0).trans r_x_0
  have r_x_2 := (congrFun x9 2).trans r_x_2
  refine g_h (h' := wB h9 b B) (by rw [← v9]; exact wB_v.symm) ?_
  refine g_aload_n (pc := 38) d_HS_runScript_38 rfl 1 rfl ?_
  refine g_getR (pc := 39) (ci := 0) (f := 0) (b := pa) rfl r_x_0 d_HS_runScript_39 fl_HS_10 (by decide) k_x ?_
  refine g_getR (pc := 42) (ci := 1) (f := 1) (b := sa) rfl r_pa_1 d_HS_runScript_42 fl_HS_102 (by decide) k_pa ?_
  refine g_astore_n (pc := 45) (lv' := [(2, .ref sa), (1, .int (bI (Y_script T n (B.1 8) q S).1)), (0, .ref x)]) d_HS_runScript_45 rfl (by decide) rfl ?_
  refine g_iconst (pc := 46) (v := 0) d_HS_runScript_46 (by decide) ?_
  refine g_istore_n (pc := 47) (lv' := [(3, .int (nI 0)), (2, .ref sa), (1, .int (bI (Y_script T n (B.1 8) q S).1)), (0, .ref x)]) d_HS_runScript_47 rfl (by decide) rfl ?_
  refine g_perm [0, 1, 2, 3] rfl ?_
  refine lp_HS_run k_x r_x_2 hB hS8 i1 i2 i3 i4 f1 f2 f3 c20 rfl hsq (Y_script T n (B.1 8) q S).2.2.1 0 U B (by omega) hG (by omega) ⟨h9, q9, rfl, rfl⟩
