/-! THE CLASS'S OWN METHODS: changes -/
/-- what a remembered 'now' still is -/
def Kx (h h9 : Hp) (x b : Nat) (B : Bu) : Prop := BuOk h9 b ∧ vB h9 b = B ∧ (∀ i, i < 8 → sh h9 b i = sh h b i) ∧ hR h9 x = hR h x ∧ hK h9 x = hK h x
theorem d_HS_passDays_0 : decode (mC m_HS_passDays) 0 = .ok (.iload_n 1, 1) := by decide +kernel
theorem d_HS_passDays_1 : decode (mC m_HS_passDays) 1 = .ok (.iconst 1, 1) := by decide +kernel
theorem d_HS_passDays_2 : decode (mC m_HS_passDays) 2 = .ok (.bipush 100, 2) := by decide +kernel
theorem d_HS_passDays_4 : decode (mC m_HS_passDays) 4 = .ok (.invokestatic 70, 3) := by decide +kernel
theorem d_HS_passDays_7 : decode (mC m_HS_passDays) 7 = .ok (.aload_n 0, 1) := by decide +kernel
theorem d_HS_passDays_8 : decode (mC m_HS_passDays) 8 = .ok (.getfield 31, 3) := by decide +kernel
theorem d_HS_passDays_11 : decode (mC m_HS_passDays) 11 = .ok (.aload_n 0, 1) := by decide +kernel
theorem d_HS_passDays_12 : decode (mC m_HS_passDays) 12 = .ok (.getfield 50, 3) := by decide +kernel
theorem d_HS_passDays_15 : decode (mC m_HS_passDays) 15 = .ok (.invokevirtual 88, 3) := by decide +kernel
theorem d_HS_passDays_18 : decode (mC m_HS_passDays) 18 = .ok (.aload_n 0, 1) := by decide +kernel
theorem d_HS_passDays_19 : decode (mC m_HS_passDays) 19 = .ok (.getfield 50, 3) := by decide +kernel
theorem d_HS_passDays_22 : decode (mC m_HS_passDays) 22 = .ok (.iload_n 1, 1) := by decide +kernel
theorem d_HS_passDays_23 : decode (mC m_HS_passDays) 23 = .ok (.invokevirtual 115, 3) := by decide +kernel
theorem d_HS_passDays_26 : decode (mC m_HS_passDays) 26 = .ok (.ireturn, 1) := by decide +kernel
set_option maxRecDepth 20000 in
theorem cs_HS_passDays {E : En} {h : Hp} {x b hy nw sc ni U : Nat} {B : Bu} {Q : Hp → Prop} {days : Nat} (k_x : hK h x = 1) (r_x_2 : hR h x 2 = some b) (r_x_4 : hR h x 4 = some hy) (k_hy : hK h hy = 7) (hB : BuOk h b) (hv9 : vB h b = B) (hG : Gd B nw sc ni U) (hRm : CT E m_HI_remember [.ref hy, .ref b] h 11 156 (fun v h9 => v = none ∧ Q h9) noX) (hQ : ∀ h9, Q h9 → Kx h h9 x b B) (hdy : days < 1000) (hr1 : (1 : Int32) ≤ nI days) (hr2 : nI days ≤ 100) : CT E m_HS_passDays [.ref x, .int (nI days)] h 11 156 (fun v h1 => ∃ h9, Q h9 ∧ v = some (.int (nI (P_pass nw sc ni days (0, B)).1)) ∧ h1 = wB h9 b (P_pass nw sc ni days (0, B)).2) noX := by
  refine ct_of rfl (by decide +kernel) (Nat.le_of_ble_eq_true rfl) ?_
  show G E m_HS_passDays 0 [(0, .ref x), (1, .int (nI days))] [] h 11 156 _ noX
  obtain ⟨hw, hn, hs, hm, h0, hni, n3, ⟨sd, hsd, hsx⟩, hop⟩ := id hG.1
  refine g_h (h' := wB h b B) (by rw [← hv9]; exact wB_v.symm) ?_
  refine g_iload_n (pc := 0) d_HS_passDays_0 rfl 1 rfl ?_
  refine g_iconst (pc := 1) (v := 1) d_HS_passDays_1 (by decide) ?_
  refine g_bipush (pc := 2) (v := 100) d_HS_passDays_2 (by decide) ?_
  refine g_cS0 (pc := 4) (As := [.int _, .int _, .int _]) d_HS_passDays_4 rfl ms_HS_requireRange st_HS_passDays_70 rfl rfl (Nat.le_of_ble_eq_true rfl) (cs_HS_requireRange hr1 hr2) ?_
  refine g_aload_n (pc := 7) d_HS_passDays_7 rfl 0 rfl ?_
  refine g_getR (pc := 8) (ci := 0) (f := 4) (b := hy) rfl r_x_4 d_HS_passDays_8 fl_HS_31 (by decide) k_x ?_
  refine g_aload_n (pc := 11) d_HS_passDays_11 rfl 0 rfl ?_
  refine g_getR (pc := 12) (ci := 0) (f := 2) (b := b) rfl r_x_2 d_HS_passDays_12 fl_HS_50 (by decide) k_x ?_
  refine g_h (h' := h) (by rw [← hv9]; exact wB_v) ?_
  refine g_callV (k := 0) (n := 0) (kz := 11) (nz := 156) (pc := 15) (ci := 6) (As := [.ref _]) d_HS_passDays_15 rfl mv_HI_remember st_HS_passDays_88 rfl rfl (by decide) k_hy rfl rfl (Nat.le_of_ble_eq_true rfl) hRm (fun _ _ z => z.elim) (fun v h9 z => ?_)
  obtain ⟨rfl, q9⟩ := z
  obtain ⟨b9, v9, s9, x9, k9⟩ := hQ h9 q9
  refine g_h (h' := wB h9 b B) (by rw [← v9]; exact wB_v.symm) ?_
  have hBo := hB
  have r_o := r_x_2
  clear hB
  have hB := b9
  have k_x := k9.trans k_x
  have r_x_2 := (congrFun x9 2).trans r_x_2
  refine g_aload_n (pc := 18) d_HS_passDays_18 rfl 0 rfl ?_
  refine g_getR (pc := 19) (ci := 0) (f := 2) (b := b) rfl r_x_2 d_HS_passDays_19 fl_HS_50 (by decide) k_x ?_
  refine g_iload_n (pc := 22) d_HS_passDays_22 rfl 1 rfl ?_
  refine g_cV1 (pc := 23) (ci := 4) (As := [.int _]) d_HS_passDays_23 rfl mv_BU_passMany st_HS_passDays_115 rfl rfl (by decide) rfl rfl (Nat.le_of_ble_eq_true rfl) hB.1 (cb_passMany hB hG.1 (by omega)) ?_
  refine g_iret (pc := 26) d_HS_passDays_26 rfl ?_
  exact ⟨h9, q9, rfl, rfl⟩
theorem d_HS_visit_0 : decode (mC m_HS_visit) 0 = .ok (.aload_n 0, 1) := by decide +kernel
theorem d_HS_visit_1 : decode (mC m_HS_visit) 1 = .ok (.iload_n 1, 1) := by decide +kernel
theorem d_HS_visit_2 : decode (mC m_HS_visit) 2 = .ok (.invokevirtual 119, 3) := by decide +kernel
theorem d_HS_visit_5 : decode (mC m_HS_visit) 5 = .ok (.astore_n 2, 1) := by decide +kernel
theorem d_HS_visit_6 : decode (mC m_HS_visit) 6 = .ok (.aload_n 2, 1) := by decide +kernel
theorem d_HS_visit_7 : decode (mC m_HS_visit) 7 = .ok (.getfield 123, 3) := by decide +kernel
theorem d_HS_visit_10 : decode (mC m_HS_visit) 10 = .ok (.invokestatic 129, 3) := by decide +kernel
theorem d_HS_visit_13 : decode (mC m_HS_visit) 13 = .ok (.aload_n 0, 1) := by decide +kernel
theorem d_HS_visit_14 : decode (mC m_HS_visit) 14 = .ok (.getfield 31, 3) := by decide +kernel
theorem d_HS_visit_17 : decode (mC m_HS_visit) 17 = .ok (.aload_n 0, 1) := by decide +kernel
theorem d_HS_visit_18 : decode (mC m_HS_visit) 18 = .ok (.getfield 50, 3) := by decide +kernel
theorem d_HS_visit_21 : decode (mC m_HS_visit) 21 = .ok (.invokevirtual 88, 3) := by decide +kernel
theorem d_HS_visit_24 : decode (mC m_HS_visit) 24 = .ok (.aload_n 0, 1) := by decide +kernel
theorem d_HS_visit_25 : decode (mC m_HS_visit) 25 = .ok (.getfield 50, 3) := by decide +kernel
theorem d_HS_visit_28 : decode (mC m_HS_visit) 28 = .ok (.aload_n 2, 1) := by decide +kernel
theorem d_HS_visit_29 : decode (mC m_HS_visit) 29 = .ok (.invokevirtual 132, 3) := by decide +kernel
theorem d_HS_visit_32 : decode (mC m_HS_visit) 32 = .ok (.ireturn, 1) := by decide +kernel
set_option maxRecDepth 20000 in
theorem cs_HS_visit {E : En} {h : Hp} {x b hy nw sc ni U : Nat} {B : Bu} {Q : Hp → Prop} {i : Nat} (k_x : hK h x = 1) (r_x_2 : hR h x 2 = some b) (r_x_4 : hR h x 4 = some hy) (k_hy : hK h hy = 7) (hB : BuOk h b) (hv9 : vB h b = B) (hG : Gd B nw sc ni U) (hRm : CT E m_HI_remember [.ref hy, .ref b] h 11 156 (fun v h9 => v = none ∧ Q h9) noX) (hQ : ∀ h9, Q h9 → Kx h h9 x b B) (hi : i < sc) (hop1 : B.2.2 i 12 = 1) : CT E m_HS_visit [.ref x, .int (nI i)] h 11 156 (fun v h1 => ∃ h9, Q h9 ∧ v = some (.int (P_fine B i nw)) ∧ h1 = wB h9 b (P_ins B i nw)) noX := by
  refine ct_of rfl (by decide +kernel) (Nat.le_of_ble_eq_true rfl) ?_
  show G E m_HS_visit 0 [(0, .ref x), (1, .int (nI i))] [] h 11 156 _ noX
  obtain ⟨hw, hn, hs, hm, h0, hni, n3, ⟨sd, hsd, hsx⟩, hop⟩ := id hG.1
  refine g_h (h' := wB h b B) (by rw [← hv9]; exact wB_v.symm) ?_
  refine g_aload_n (pc := 0) d_HS_visit_0 rfl 0 rfl ?_
  refine g_iload_n (pc := 1) d_HS_visit_1 rfl 1 rfl ?_
  refine g_cV1 (pc := 2) (ci := 0) (As := [.int _]) d_HS_visit_2 rfl mv_HS_existingShop st_HS_visit_119 rfl rfl (by decide) rfl rfl (Nat.le_of_ble_eq_true rfl) k_x (cs_HS_existingShop k_x r_x_2 hB hG hi) ?_
  refine g_astore_n (pc := 5) (lv' := [(2, .ref (sh h b i)), (0, .ref x), (1, .int (nI i))]) d_HS_visit_5 rfl (by decide) rfl ?_
  refine g_aload_n (pc := 6) d_HS_visit_6 rfl 0 rfl ?_
  refine g_sgI (pc := 7) (f := 12) rfl d_HS_visit_7 fl_HS_123 hB (by first | assumption | omega | decide) ?_
  rw [hop1]
  refine g_cS0 (pc := 10) (As := [.int _]) d_HS_visit_10 rfl ms_HS_requireState st_HS_visit_129 rfl rfl (Nat.le_of_ble_eq_true rfl) (cs_HS_requireState ) ?_
  refine g_aload_n (pc := 13) d_HS_visit_13 rfl 1 rfl ?_
  refine g_getR (pc := 14) (ci := 0) (f := 4) (b := hy) rfl r_x_4 d_HS_visit_14 fl_HS_31 (by decide) k_x ?_
  refine g_aload_n (pc := 17) d_HS_visit_17 rfl 1 rfl ?_
  refine g_getR (pc := 18) (ci := 0) (f := 2) (b := b) rfl r_x_2 d_HS_visit_18 fl_HS_50 (by decide) k_x ?_
  refine g_h (h' := h) (by rw [← hv9]; exact wB_v) ?_
  refine g_callV (k := 0) (n := 0) (kz := 11) (nz := 156) (pc := 21) (ci := 6) (As := [.ref _]) d_HS_visit_21 rfl mv_HI_remember st_HS_visit_88 rfl rfl (by decide) k_hy rfl rfl (Nat.le_of_ble_eq_true rfl) hRm (fun _ _ z => z.elim) (fun v h9 z => ?_)
  obtain ⟨rfl, q9⟩ := z
  obtain ⟨b9, v9, s9, x9, k9⟩ := hQ h9 q9
  refine g_h (h' := wB h9 b B) (by rw [← v9]; exact wB_v.symm) ?_
  have hBo := hB
  have r_o := r_x_2
  clear hB
  have hB := b9
  have k_x := k9.trans k_x
  have r_x_2 := (congrFun x9 2).trans r_x_2
  rw [← s9 i (by omega)]
  refine g_aload_n (pc := 24) d_HS_visit_24 rfl 1 rfl ?_
  refine g_getR (pc := 25) (ci := 0) (f := 2) (b := b) rfl r_x_2 d_HS_visit_25 fl_HS_50 (by decide) k_x ?_
  refine g_aload_n (pc := 28) d_HS_visit_28 rfl 0 rfl ?_
  refine g_cV1 (pc := 29) (ci := 4) (As := [.ref _]) d_HS_visit_29 rfl mv_BU_inspect st_HS_visit_132 rfl rfl (by decide) rfl rfl (Nat.le_of_ble_eq_true rfl) hB.1 (cb_inspect hB (by first | assumption | omega | decide) hw hn) ?_
  refine g_iret (pc := 32) d_HS_visit_32 rfl ?_
  exact ⟨h9, q9, rfl, rfl⟩
set_option maxRecDepth 20000 in
theorem ce_HS_visitS {E : En} {h : Hp} {x b nw sc ni U : Nat} {B : Bu} {i : Nat} (hE : (eL E).stackTraces = false) (k_x : hK h x = 1) (r_x_2 : hR h x 2 = some b) (hB : BuOk h b) (hG : Gd B nw sc ni U) (hi : i < sc) (hop1 : B.2.2 i 12 = 0) : CE E m_HS_visit [.ref x, .int (nI i)] (wB h b B) "java/lang/IllegalStateException" := by
  refine ct_of rfl (by decide +kernel) (Nat.le_of_ble_eq_true rfl) ?_
  show G E m_HS_visit 0 [(0, .ref x), (1, .int (nI i))] [] (wB h b B) 1 6 _ _
  obtain ⟨hw, hn, hs, hm, h0, hni, n3, ⟨sd, hsd, hsx⟩, hop⟩ := id hG.1
  refine g_aload_n (pc := 0) d_HS_visit_0 rfl 0 rfl ?_
  refine g_iload_n (pc := 1) d_HS_visit_1 rfl 1 rfl ?_
  refine g_cV1 (pc := 2) (ci := 0) (As := [.int _]) d_HS_visit_2 rfl mv_HS_existingShop st_HS_visit_119 rfl rfl (by decide) rfl rfl (Nat.le_of_ble_eq_true rfl) k_x (cs_HS_existingShop k_x r_x_2 hB hG hi) ?_
  refine g_astore_n (pc := 5) (lv' := [(2, .ref (sh h b i)), (0, .ref x), (1, .int (nI i))]) d_HS_visit_5 rfl (by decide) rfl ?_
  refine g_aload_n (pc := 6) d_HS_visit_6 rfl 0 rfl ?_
  refine g_sgI (pc := 7) (f := 12) rfl d_HS_visit_7 fl_HS_123 hB (by first | assumption | omega | decide) ?_
  rw [hop1]
  exact g_eS (k := 0) (n := 0) (pc := 10) (As := [.int _]) d_HS_visit_10 rfl ms_HS_requireState st_HS_visit_129 rfl rfl (Nat.le_of_ble_eq_true rfl) (ce_HS_requireState hE) ⟨rfl, rfl⟩
theorem d_HS_repair_0 : decode (mC m_HS_repair) 0 = .ok (.aload_n 0, 1) := by decide +kernel
theorem d_HS_repair_1 : decode (mC m_HS_repair) 1 = .ok (.iload_n 1, 1) := by decide +kernel
theorem d_HS_repair_2 : decode (mC m_HS_repair) 2 = .ok (.invokevirtual 119, 3) := by decide +kernel
theorem d_HS_repair_5 : decode (mC m_HS_repair) 5 = .ok (.astore_n 2, 1) := by decide +kernel
theorem d_HS_repair_6 : decode (mC m_HS_repair) 6 = .ok (.aload_n 2, 1) := by decide +kernel
theorem d_HS_repair_7 : decode (mC m_HS_repair) 7 = .ok (.invokevirtual 136, 3) := by decide +kernel
theorem d_HS_repair_10 : decode (mC m_HS_repair) 10 = .ok (.invokestatic 129, 3) := by decide +kernel
theorem d_HS_repair_13 : decode (mC m_HS_repair) 13 = .ok (.aload_n 0, 1) := by decide +kernel
theorem d_HS_repair_14 : decode (mC m_HS_repair) 14 = .ok (.getfield 31, 3) := by decide +kernel
theorem d_HS_repair_17 : decode (mC m_HS_repair) 17 = .ok (.aload_n 0, 1) := by decide +kernel
theorem d_HS_repair_18 : decode (mC m_HS_repair) 18 = .ok (.getfield 50, 3) := by decide +kernel
theorem d_HS_repair_21 : decode (mC m_HS_repair) 21 = .ok (.invokevirtual 88, 3) := by decide +kernel
theorem d_HS_repair_24 : decode (mC m_HS_repair) 24 = .ok (.aload_n 0, 1) := by decide +kernel
theorem d_HS_repair_25 : decode (mC m_HS_repair) 25 = .ok (.getfield 50, 3) := by decide +kernel
theorem d_HS_repair_28 : decode (mC m_HS_repair) 28 = .ok (.aload_n 2, 1) := by decide +kernel
theorem d_HS_repair_29 : decode (mC m_HS_repair) 29 = .ok (.invokevirtual 140, 3) := by decide +kernel
theorem d_HS_repair_32 : decode (mC m_HS_repair) 32 = .ok (.aload_n 2, 1) := by decide +kernel
theorem d_HS_repair_33 : decode (mC m_HS_repair) 33 = .ok (.getfield 144, 3) := by decide +kernel
theorem d_HS_repair_36 : decode (mC m_HS_repair) 36 = .ok (.ireturn, 1) := by decide +kernel
set_option maxRecDepth 20000 in
theorem cs_HS_repair {E : En} {h : Hp} {x b hy nw sc ni U : Nat} {B : Bu} {Q : Hp → Prop} {i : Nat} (k_x : hK h x = 1) (r_x_2 : hR h x 2 = some b) (r_x_4 : hR h x 4 = some hy) (k_hy : hK h hy = 7) (hB : BuOk h b) (hv9 : vB h b = B) (hG : Gd B nw sc ni U) (hRm : CT E m_HI_remember [.ref hy, .ref b] h 11 156 (fun v h9 => v = none ∧ Q h9) noX) (hQ : ∀ h9, Q h9 → Kx h h9 x b B) (hi : i < sc) (hpay : M_canPay (B.2.2 i) = true) : CT E m_HS_repair [.ref x, .int (nI i)] h 11 156 (fun v h1 => ∃ h9, Q h9 ∧ v = some (.int (B.2.2 i 0 - 10)) ∧ h1 = wB h9 b (P_repair B i)) noX := by
  refine ct_of rfl (by decide +kernel) (Nat.le_of_ble_eq_true rfl) ?_
  show G E m_HS_repair 0 [(0, .ref x), (1, .int (nI i))] [] h 11 156 _ noX
  obtain ⟨hw, hn, hs, hm, h0, hni, n3, ⟨sd, hsd, hsx⟩, hop⟩ := id hG.1
  refine g_h (h' := wB h b B) (by rw [← hv9]; exact wB_v.symm) ?_
  refine g_aload_n (pc := 0) d_HS_repair_0 rfl 0 rfl ?_
  refine g_iload_n (pc := 1) d_HS_repair_1 rfl 1 rfl ?_
  refine g_cV1 (pc := 2) (ci := 0) (As := [.int _]) d_HS_repair_2 rfl mv_HS_existingShop st_HS_repair_119 rfl rfl (by decide) rfl rfl (Nat.le_of_ble_eq_true rfl) k_x (cs_HS_existingShop k_x r_x_2 hB hG hi) ?_
  refine g_astore_n (pc := 5) (lv' := [(2, .ref (sh h b i)), (0, .ref x), (1, .int (nI i))]) d_HS_repair_5 rfl (by decide) rfl ?_
  refine g_aload_n (pc := 6) d_HS_repair_6 rfl 0 rfl ?_
  refine g_cV1 (pc := 7) (ci := 5) (As := []) d_HS_repair_7 rfl mv_SH_canPayRepair st_HS_repair_136 rfl rfl (by decide) rfl rfl (Nat.le_of_ble_eq_true rfl) (hB.sk (by first | assumption | omega | decide)) (cb_canPayRepair hB (by first | assumption | omega | decide)) ?_
  refine g_top (y := 1) (by rw [hpay]; rfl) ?_
  refine g_cS0 (pc := 10) (As := [.int _]) d_HS_repair_10 rfl ms_HS_requireState st_HS_repair_129 rfl rfl (Nat.le_of_ble_eq_true rfl) (cs_HS_requireState ) ?_
  refine g_aload_n (pc := 13) d_HS_repair_13 rfl 1 rfl ?_
  refine g_getR (pc := 14) (ci := 0) (f := 4) (b := hy) rfl r_x_4 d_HS_repair_14 fl_HS_31 (by decide) k_x ?_
  refine g_aload_n (pc := 17) d_HS_repair_17 rfl 1 rfl ?_
  refine g_getR (pc := 18) (ci := 0) (f := 2) (b := b) rfl r_x_2 d_HS_repair_18 fl_HS_50 (by decide) k_x ?_
  refine g_h (h' := h) (by rw [← hv9]; exact wB_v) ?_
  refine g_callV (k := 0) (n := 0) (kz := 11) (nz := 156) (pc := 21) (ci := 6) (As := [.ref _]) d_HS_repair_21 rfl mv_HI_remember st_HS_repair_88 rfl rfl (by decide) k_hy rfl rfl (Nat.le_of_ble_eq_true rfl) hRm (fun _ _ z => z.elim) (fun v h9 z => ?_)
  obtain ⟨rfl, q9⟩ := z
  obtain ⟨b9, v9, s9, x9, k9⟩ := hQ h9 q9
  refine g_h (h' := wB h9 b B) (by rw [← v9]; exact wB_v.symm) ?_
  have hBo := hB
  have r_o := r_x_2
  clear hB
  have hB := b9
  have k_x := k9.trans k_x
  have r_x_2 := (congrFun x9 2).trans r_x_2
  rw [← s9 i (by omega)]
  refine g_aload_n (pc := 24) d_HS_repair_24 rfl 1 rfl ?_
  refine g_getR (pc := 25) (ci := 0) (f := 2) (b := b) rfl r_x_2 d_HS_repair_25 fl_HS_50 (by decide) k_x ?_
  refine g_aload_n (pc := 28) d_HS_repair_28 rfl 0 rfl ?_
  refine g_cV0 (pc := 29) (ci := 4) (As := [.ref _]) d_HS_repair_29 rfl mv_BU_repairScale st_HS_repair_140 rfl rfl (by decide) rfl rfl (Nat.le_of_ble_eq_true rfl) hB.1 (cb_repairScale hB (by first | assumption | omega | decide)) ?_
  refine g_aload_n (pc := 32) d_HS_repair_32 rfl 0 rfl ?_
  refine g_sgI (pc := 33) (f := 0) rfl d_HS_repair_33 fl_HS_144 hB (by first | assumption | omega | decide) ?_
  refine g_top (y := B.2.2 i 0 - 10) (by show u1 B.2.2 i (u1 (M_straight (B.2.2 i)) 0 (B.2.2 i 0 - 10)) i 0 = _; rw [u1_same, u1_same]) ?_
  refine g_iret (pc := 36) d_HS_repair_36 rfl ?_
  exact ⟨h9, q9, rfl, rfl⟩
set_option maxRecDepth 20000 in
theorem ce_HS_repairS {E : En} {h : Hp} {x b nw sc ni U : Nat} {B : Bu} {i : Nat} (hE : (eL E).stackTraces = false) (k_x : hK h x = 1) (r_x_2 : hR h x 2 = some b) (hB : BuOk h b) (hG : Gd B nw sc ni U) (hi : i < sc) (hpay : M_canPay (B.2.2 i) = false) : CE E m_HS_repair [.ref x, .int (nI i)] (wB h b B) "java/lang/IllegalStateException" := by
  refine ct_of rfl (by decide +kernel) (Nat.le_of_ble_eq_true rfl) ?_
  show G E m_HS_repair 0 [(0, .ref x), (1, .int (nI i))] [] (wB h b B) 1 6 _ _
  obtain ⟨hw, hn, hs, hm, h0, hni, n3, ⟨sd, hsd, hsx⟩, hop⟩ := id hG.1
  refine g_aload_n (pc := 0) d_HS_repair_0 rfl 0 rfl ?_
  refine g_iload_n (pc := 1) d_HS_repair_1 rfl 1 rfl ?_
  refine g_cV1 (pc := 2) (ci := 0) (As := [.int _]) d_HS_repair_2 rfl mv_HS_existingShop st_HS_repair_119 rfl rfl (by decide) rfl rfl (Nat.le_of_ble_eq_true rfl) k_x (cs_HS_existingShop k_x r_x_2 hB hG hi) ?_
  refine g_astore_n (pc := 5) (lv' := [(2, .ref (sh h b i)), (0, .ref x), (1, .int (nI i))]) d_HS_repair_5 rfl (by decide) rfl ?_
  refine g_aload_n (pc := 6) d_HS_repair_6 rfl 0 rfl ?_
  refine g_cV1 (pc := 7) (ci := 5) (As := []) d_HS_repair_7 rfl mv_SH_canPayRepair st_HS_repair_136 rfl rfl (by decide) rfl rfl (Nat.le_of_ble_eq_true rfl) (hB.sk (by first | assumption | omega | decide)) (cb_canPayRepair hB (by first | assumption | omega | decide)) ?_
  refine g_top (y := 0) (by rw [hpay]; rfl) ?_
  exact g_eS (k := 0) (n := 0) (pc := 10) (As := [.int _]) d_HS_repair_10 rfl ms_HS_requireState st_HS_repair_129 rfl rfl (Nat.le_of_ble_eq_true rfl) (ce_HS_requireState hE) ⟨rfl, rfl⟩
theorem d_HS_setThumb_0 : decode (mC m_HS_setThumb) 0 = .ok (.aload_n 0, 1) := by decide +kernel
theorem d_HS_setThumb_1 : decode (mC m_HS_setThumb) 1 = .ok (.iload_n 1, 1) := by decide +kernel
theorem d_HS_setThumb_2 : decode (mC m_HS_setThumb) 2 = .ok (.invokevirtual 119, 3) := by decide +kernel
theorem d_HS_setThumb_5 : decode (mC m_HS_setThumb) 5 = .ok (.astore_n 3, 1) := by decide +kernel
theorem d_HS_setThumb_6 : decode (mC m_HS_setThumb) 6 = .ok (.iload_n 2, 1) := by decide +kernel
theorem d_HS_setThumb_7 : decode (mC m_HS_setThumb) 7 = .ok (.iconst 0, 1) := by decide +kernel
theorem d_HS_setThumb_8 : decode (mC m_HS_setThumb) 8 = .ok (.bipush 100, 2) := by decide +kernel
theorem d_HS_setThumb_10 : decode (mC m_HS_setThumb) 10 = .ok (.invokestatic 70, 3) := by decide +kernel
theorem d_HS_setThumb_13 : decode (mC m_HS_setThumb) 13 = .ok (.aload_n 0, 1) := by decide +kernel
theorem d_HS_setThumb_14 : decode (mC m_HS_setThumb) 14 = .ok (.getfield 31, 3) := by decide +kernel
theorem d_HS_setThumb_17 : decode (mC m_HS_setThumb) 17 = .ok (.aload_n 0, 1) := by decide +kernel
theorem d_HS_setThumb_18 : decode (mC m_HS_setThumb) 18 = .ok (.getfield 50, 3) := by decide +kernel
theorem d_HS_setThumb_21 : decode (mC m_HS_setThumb) 21 = .ok (.invokevirtual 88, 3) := by decide +kernel
theorem d_HS_setThumb_24 : decode (mC m_HS_setThumb) 24 = .ok (.aload_n 3, 1) := by decide +kernel
theorem d_HS_setThumb_25 : decode (mC m_HS_setThumb) 25 = .ok (.getfield 147, 3) := by decide +kernel
theorem d_HS_setThumb_28 : decode (mC m_HS_setThumb) 28 = .ok (.istore 4, 2) := by decide +kernel
theorem d_HS_setThumb_30 : decode (mC m_HS_setThumb) 30 = .ok (.aload_n 3, 1) := by decide +kernel
theorem d_HS_setThumb_31 : decode (mC m_HS_setThumb) 31 = .ok (.iload_n 2, 1) := by decide +kernel
theorem d_HS_setThumb_32 : decode (mC m_HS_setThumb) 32 = .ok (.putfield 147, 3) := by decide +kernel
theorem d_HS_setThumb_35 : decode (mC m_HS_setThumb) 35 = .ok (.iload 4, 2) := by decide +kernel
theorem d_HS_setThumb_37 : decode (mC m_HS_setThumb) 37 = .ok (.ireturn, 1) := by decide +kernel
set_option maxRecDepth 20000 in
theorem cs_HS_setThumb {E : En} {h : Hp} {x b hy nw sc ni U : Nat} {B : Bu} {Q : Hp → Prop} {i : Nat} {yv : Int32} (k_x : hK h x = 1) (r_x_2 : hR h x 2 = some b) (r_x_4 : hR h x 4 = some hy) (k_hy : hK h hy = 7) (hB : BuOk h b) (hv9 : vB h b = B) (hG : Gd B nw sc ni U) (hRm : CT E m_HI_remember [.ref hy, .ref b] h 11 156 (fun v h9 => v = none ∧ Q h9) noX) (hQ : ∀ h9, Q h9 → Kx h h9 x b B) (hi : i < sc) (hr1 : 0 ≤ yv) (hr2 : yv ≤ 100) : CT E m_HS_setThumb [.ref x, .int (nI i), .int yv] h 11 156 (fun v h1 => ∃ h9, Q h9 ∧ v = some (.int (B.2.2 i 6)) ∧ h1 = wB h9 b (Q_thumb B i yv)) noX := by
  refine ct_of rfl (by decide +kernel) (Nat.le_of_ble_eq_true rfl) ?_
  show G E m_HS_setThumb 0 [(0, .ref x), (1, .int (nI i)), (2, .int yv)] [] h 11 156 _ noX
  obtain ⟨hw, hn, hs, hm, h0, hni, n3, ⟨sd, hsd, hsx⟩, hop⟩ := id hG.1
  refine g_h (h' := wB h b B) (by rw [← hv9]; exact wB_v.symm) ?_
  refine g_aload_n (pc := 0) d_HS_setThumb_0 rfl 0 rfl ?_
  refine g_iload_n (pc := 1) d_HS_setThumb_1 rfl 1 rfl ?_
  refine g_cV1 (pc := 2) (ci := 0) (As := [.int _]) d_HS_setThumb_2 rfl mv_HS_existingShop st_HS_setThumb_119 rfl rfl (by decide) rfl rfl (Nat.le_of_ble_eq_true rfl) k_x (cs_HS_existingShop k_x r_x_2 hB hG hi) ?_
  refine g_astore_n (pc := 5) (lv' := [(3, .ref (sh h b i)), (0, .ref x), (1, .int (nI i)), (2, .int yv)]) d_HS_setThumb_5 rfl (by decide) rfl ?_
  refine g_iload_n (pc := 6) d_HS_setThumb_6 rfl 3 rfl ?_
  refine g_iconst (pc := 7) (v := 0) d_HS_setThumb_7 (by decide) ?_
  refine g_bipush (pc := 8) (v := 100) d_HS_setThumb_8 (by decide) ?_
  refine g_cS0 (pc := 10) (As := [.int _, .int _, .int _]) d_HS_setThumb_10 rfl ms_HS_requireRange st_HS_setThumb_70 rfl rfl (Nat.le_of_ble_eq_true rfl) (cs_HS_requireRange hr1 hr2) ?_
  refine g_aload_n (pc := 13) d_HS_setThumb_13 rfl 1 rfl ?_
  refine g_getR (pc := 14) (ci := 0) (f := 4) (b := hy) rfl r_x_4 d_HS_setThumb_14 fl_HS_31 (by decide) k_x ?_
  refine g_aload_n (pc := 17) d_HS_setThumb_17 rfl 1 rfl ?_
  refine g_getR (pc := 18) (ci := 0) (f := 2) (b := b) rfl r_x_2 d_HS_setThumb_18 fl_HS_50 (by decide) k_x ?_
  refine g_h (h' := h) (by rw [← hv9]; exact wB_v) ?_
  refine g_callV (k := 0) (n := 0) (kz := 11) (nz := 156) (pc := 21) (ci := 6) (As := [.ref _]) d_HS_setThumb_21 rfl mv_HI_remember st_HS_setThumb_88 rfl rfl (by decide) k_hy rfl rfl (Nat.le_of_ble_eq_true rfl) hRm (fun _ _ z => z.elim) (fun v h9 z => ?_)
  obtain ⟨rfl, q9⟩ := z
  obtain ⟨b9, v9, s9, x9, k9⟩ := hQ h9 q9
  refine g_h (h' := wB h9 b B) (by rw [← v9]; exact wB_v.symm) ?_
  have hBo := hB
  have r_o := r_x_2
  clear hB
  have hB := b9
  have k_x := k9.trans k_x
  have r_x_2 := (congrFun x9 2).trans r_x_2
  rw [← s9 i (by omega)]
  refine g_aload_n (pc := 24) d_HS_setThumb_24 rfl 0 rfl ?_
  refine g_sgI (pc := 25) (f := 6) rfl d_HS_setThumb_25 fl_HS_147 hB (by first | assumption | omega | decide) ?_
  refine g_istore (pc := 28) (lv' := [(4, .int (B.2.2 i 6)), (3, .ref (sh h9 b i)), (0, .ref x), (1, .int (nI i)), (2, .int yv)]) d_HS_setThumb_28 (by decide) rfl ?_
  refine g_aload_n (pc := 30) d_HS_setThumb_30 rfl 1 rfl ?_
  refine g_iload_n (pc := 31) d_HS_setThumb_31 rfl 4 rfl ?_
  refine g_spI (pc := 32) (f := 6) rfl d_HS_setThumb_32 fl_HS_147 (fun q hq => by cases hq; exact rfl) rfl rfl hB (by first | assumption | omega | decide) ?_
  refine g_iload (pc := 35) d_HS_setThumb_35 0 rfl ?_
  refine g_iret (pc := 37) d_HS_setThumb_37 rfl ?_
  exact ⟨h9, q9, rfl, rfl⟩
theorem d_HS_complain_0 : decode (mC m_HS_complain) 0 = .ok (.aload_n 0, 1) := by decide +kernel
theorem d_HS_complain_1 : decode (mC m_HS_complain) 1 = .ok (.iload_n 1, 1) := by decide +kernel
theorem d_HS_complain_2 : decode (mC m_HS_complain) 2 = .ok (.invokevirtual 119, 3) := by decide +kernel
theorem d_HS_complain_5 : decode (mC m_HS_complain) 5 = .ok (.astore_n 2, 1) := by decide +kernel
theorem d_HS_complain_6 : decode (mC m_HS_complain) 6 = .ok (.aload_n 2, 1) := by decide +kernel
theorem d_HS_complain_7 : decode (mC m_HS_complain) 7 = .ok (.getfield 123, 3) := by decide +kernel
theorem d_HS_complain_10 : decode (mC m_HS_complain) 10 = .ok (.invokestatic 129, 3) := by decide +kernel
theorem d_HS_complain_13 : decode (mC m_HS_complain) 13 = .ok (.aload_n 0, 1) := by decide +kernel
theorem d_HS_complain_14 : decode (mC m_HS_complain) 14 = .ok (.getfield 31, 3) := by decide +kernel
theorem d_HS_complain_17 : decode (mC m_HS_complain) 17 = .ok (.aload_n 0, 1) := by decide +kernel
theorem d_HS_complain_18 : decode (mC m_HS_complain) 18 = .ok (.getfield 50, 3) := by decide +kernel
theorem d_HS_complain_21 : decode (mC m_HS_complain) 21 = .ok (.invokevirtual 88, 3) := by decide +kernel
theorem d_HS_complain_24 : decode (mC m_HS_complain) 24 = .ok (.aload_n 2, 1) := by decide +kernel
theorem d_HS_complain_25 : decode (mC m_HS_complain) 25 = .ok (.dup, 1) := by decide +kernel
theorem d_HS_complain_26 : decode (mC m_HS_complain) 26 = .ok (.getfield 150, 3) := by decide +kernel
theorem d_HS_complain_29 : decode (mC m_HS_complain) 29 = .ok (.iconst 1, 1) := by decide +kernel
theorem d_HS_complain_30 : decode (mC m_HS_complain) 30 = .ok (.iadd, 1) := by decide +kernel
theorem d_HS_complain_31 : decode (mC m_HS_complain) 31 = .ok (.putfield 150, 3) := by decide +kernel
theorem d_HS_complain_34 : decode (mC m_HS_complain) 34 = .ok (.aload_n 2, 1) := by decide +kernel
theorem d_HS_complain_35 : decode (mC m_HS_complain) 35 = .ok (.getfield 150, 3) := by decide +kernel
theorem d_HS_complain_38 : decode (mC m_HS_complain) 38 = .ok (.ireturn, 1) := by decide +kernel
set_option maxRecDepth 20000 in
theorem cs_HS_complain {E : En} {h : Hp} {x b hy nw sc ni U : Nat} {B : Bu} {Q : Hp → Prop} {i : Nat} (k_x : hK h x = 1) (r_x_2 : hR h x 2 = some b) (r_x_4 : hR h x 4 = some hy) (k_hy : hK h hy = 7) (hB : BuOk h b) (hv9 : vB h b = B) (hG : Gd B nw sc ni U) (hRm : CT E m_HI_remember [.ref hy, .ref b] h 11 156 (fun v h9 => v = none ∧ Q h9) noX) (hQ : ∀ h9, Q h9 → Kx h h9 x b B) (hi : i < sc) (hop1 : B.2.2 i 12 = 1) : CT E m_HS_complain [.ref x, .int (nI i)] h 11 156 (fun v h1 => ∃ h9, Q h9 ∧ v = some (.int (B.2.2 i 8 + 1)) ∧ h1 = wB h9 b (sS B i (u1 (B.2.2 i) 8 (B.2.2 i 8 + 1)))) noX := by
  refine ct_of rfl (by decide +kernel) (Nat.le_of_ble_eq_true rfl) ?_
  show G E m_HS_complain 0 [(0, .ref x), (1, .int (nI i))] [] h 11 156 _ noX
  obtain ⟨hw, hn, hs, hm, h0, hni, n3, ⟨sd, hsd, hsx⟩, hop⟩ := id hG.1
  refine g_h (h' := wB h b B) (by rw [← hv9]; exact wB_v.symm) ?_
  refine g_aload_n (pc := 0) d_HS_complain_0 rfl 0 rfl ?_
  refine g_iload_n (pc := 1) d_HS_complain_1 rfl 1 rfl ?_
  refine g_cV1 (pc := 2) (ci := 0) (As := [.int _]) d_HS_complain_2 rfl mv_HS_existingShop st_HS_complain_119 rfl rfl (by decide) rfl rfl (Nat.le_of_ble_eq_true rfl) k_x (cs_HS_existingShop k_x r_x_2 hB hG hi) ?_
  refine g_astore_n (pc := 5) (lv' := [(2, .ref (sh h b i)), (0, .ref x), (1, .int (nI i))]) d_HS_complain_5 rfl (by decide) rfl ?_
  refine g_aload_n (pc := 6) d_HS_complain_6 rfl 0 rfl ?_
  refine g_sgI (pc := 7) (f := 12) rfl d_HS_complain_7 fl_HS_123 hB (by first | assumption | omega | decide) ?_
  rw [hop1]
  refine g_cS0 (pc := 10) (As := [.int _]) d_HS_complain_10 rfl ms_HS_requireState st_HS_complain_129 rfl rfl (Nat.le_of_ble_eq_true rfl) (cs_HS_requireState ) ?_
  refine g_aload_n (pc := 13) d_HS_complain_13 rfl 1 rfl ?_
  refine g_getR (pc := 14) (ci := 0) (f := 4) (b := hy) rfl r_x_4 d_HS_complain_14 fl_HS_31 (by decide) k_x ?_
  refine g_aload_n (pc := 17) d_HS_complain_17 rfl 1 rfl ?_
  refine g_getR (pc := 18) (ci := 0) (f := 2) (b := b) rfl r_x_2 d_HS_complain_18 fl_HS_50 (by decide) k_x ?_
  refine g_h (h' := h) (by rw [← hv9]; exact wB_v) ?_
  refine g_callV (k := 0) (n := 0) (kz := 11) (nz := 156) (pc := 21) (ci := 6) (As := [.ref _]) d_HS_complain_21 rfl mv_HI_remember st_HS_complain_88 rfl rfl (by decide) k_hy rfl rfl (Nat.le_of_ble_eq_true rfl) hRm (fun _ _ z => z.elim) (fun v h9 z => ?_)
  obtain ⟨rfl, q9⟩ := z
  obtain ⟨b9, v9, s9, x9, k9⟩ := hQ h9 q9
  refine g_h (h' := wB h9 b B) (by rw [← v9]; exact wB_v.symm) ?_
  have hBo := hB
  have r_o := r_x_2
  clear hB
  have hB := b9
  have k_x := k9.trans k_x
  have r_x_2 := (congrFun x9 2).trans r_x_2
  rw [← s9 i (by omega)]
  refine g_aload_n (pc := 24) d_HS_complain_24 rfl 0 rfl ?_
  refine g_dup (pc := 25) d_HS_complain_25 rfl ?_
  refine g_sgI (pc := 26) (f := 8) rfl d_HS_complain_26 fl_HS_150 hB (by first | assumption | omega | decide) ?_
  refine g_iconst (pc := 29) (v := 1) d_HS_complain_29 (by decide) ?_
  refine g_iadd (pc := 30) d_HS_complain_30 ?_
  refine g_spI (pc := 31) (f := 8) rfl d_HS_complain_31 fl_HS_150 (fun q hq => by cases hq; exact rfl) rfl rfl hB (by first | assumption | omega | decide) ?_
  refine g_aload_n (pc := 34) d_HS_complain_34 rfl 0 rfl ?_
  refine g_sgI (pc := 35) (f := 8) rfl d_HS_complain_35 fl_HS_150 hB (by first | assumption | omega | decide) ?_
  refine g_top (y := B.2.2 i 8 + 1) (by show u1 B.2.2 i (u1 (B.2.2 i) 8 (B.2.2 i 8 + 1)) i 8 = _; rw [u1_same, u1_same]) ?_
  refine g_iret (pc := 38) d_HS_complain_38 rfl ?_
  exact ⟨h9, q9, rfl, rfl⟩
set_option maxRecDepth 20000 in
theorem ce_HS_complainS {E : En} {h : Hp} {x b nw sc ni U : Nat} {B : Bu} {i : Nat} (hE : (eL E).stackTraces = false) (k_x : hK h x = 1) (r_x_2 : hR h x 2 = some b) (hB : BuOk h b) (hG : Gd B nw sc ni U) (hi : i < sc) (hop1 : B.2.2 i 12 = 0) : CE E m_HS_complain [.ref x, .int (nI i)] (wB h b B) "java/lang/IllegalStateException" := by
  refine ct_of rfl (by decide +kernel) (Nat.le_of_ble_eq_true rfl) ?_
  show G E m_HS_complain 0 [(0, .ref x), (1, .int (nI i))] [] (wB h b B) 1 6 _ _
  obtain ⟨hw, hn, hs, hm, h0, hni, n3, ⟨sd, hsd, hsx⟩, hop⟩ := id hG.1
  refine g_aload_n (pc := 0) d_HS_complain_0 rfl 0 rfl ?_
  refine g_iload_n (pc := 1) d_HS_complain_1 rfl 1 rfl ?_
  refine g_cV1 (pc := 2) (ci := 0) (As := [.int _]) d_HS_complain_2 rfl mv_HS_existingShop st_HS_complain_119 rfl rfl (by decide) rfl rfl (Nat.le_of_ble_eq_true rfl) k_x (cs_HS_existingShop k_x r_x_2 hB hG hi) ?_
  refine g_astore_n (pc := 5) (lv' := [(2, .ref (sh h b i)), (0, .ref x), (1, .int (nI i))]) d_HS_complain_5 rfl (by decide) rfl ?_
  refine g_aload_n (pc := 6) d_HS_complain_6 rfl 0 rfl ?_
  refine g_sgI (pc := 7) (f := 12) rfl d_HS_complain_7 fl_HS_123 hB (by first | assumption | omega | decide) ?_
  rw [hop1]
  exact g_eS (k := 0) (n := 0) (pc := 10) (As := [.int _]) d_HS_complain_10 rfl ms_HS_requireState st_HS_complain_129 rfl rfl (Nat.le_of_ble_eq_true rfl) (ce_HS_requireState hE) ⟨rfl, rfl⟩
theorem d_HS_reopen_0 : decode (mC m_HS_reopen) 0 = .ok (.aload_n 0, 1) := by decide +kernel
theorem d_HS_reopen_1 : decode (mC m_HS_reopen) 1 = .ok (.iload_n 1, 1) := by decide +kernel
theorem d_HS_reopen_2 : decode (mC m_HS_reopen) 2 = .ok (.invokevirtual 119, 3) := by decide +kernel
theorem d_HS_reopen_5 : decode (mC m_HS_reopen) 5 = .ok (.astore_n 2, 1) := by decide +kernel
theorem d_HS_reopen_6 : decode (mC m_HS_reopen) 6 = .ok (.aload_n 2, 1) := by decide +kernel
theorem d_HS_reopen_7 : decode (mC m_HS_reopen) 7 = .ok (.getfield 123, 3) := by decide +kernel
theorem d_HS_reopen_10 : decode (mC m_HS_reopen) 10 = .ok (.ifCond .ne 7, 3) := by decide +kernel
theorem d_HS_reopen_13 : decode (mC m_HS_reopen) 13 = .ok (.iconst 1, 1) := by decide +kernel
theorem d_HS_reopen_14 : decode (mC m_HS_reopen) 14 = .ok (.goto 4, 3) := by decide +kernel
theorem d_HS_reopen_17 : decode (mC m_HS_reopen) 17 = .ok (.iconst 0, 1) := by decide +kernel
theorem d_HS_reopen_18 : decode (mC m_HS_reopen) 18 = .ok (.invokestatic 129, 3) := by decide +kernel
theorem d_HS_reopen_21 : decode (mC m_HS_reopen) 21 = .ok (.aload_n 0, 1) := by decide +kernel
theorem d_HS_reopen_22 : decode (mC m_HS_reopen) 22 = .ok (.getfield 31, 3) := by decide +kernel
theorem d_HS_reopen_25 : decode (mC m_HS_reopen) 25 = .ok (.aload_n 0, 1) := by decide +kernel
theorem d_HS_reopen_26 : decode (mC m_HS_reopen) 26 = .ok (.getfield 50, 3) := by decide +kernel
theorem d_HS_reopen_29 : decode (mC m_HS_reopen) 29 = .ok (.invokevirtual 88, 3) := by decide +kernel
theorem d_HS_reopen_32 : decode (mC m_HS_reopen) 32 = .ok (.aload_n 2, 1) := by decide +kernel
theorem d_HS_reopen_33 : decode (mC m_HS_reopen) 33 = .ok (.invokevirtual 153, 3) := by decide +kernel
theorem d_HS_reopen_36 : decode (mC m_HS_reopen) 36 = .ok (.aload_n 0, 1) := by decide +kernel
theorem d_HS_reopen_37 : decode (mC m_HS_reopen) 37 = .ok (.getfield 50, 3) := by decide +kernel
theorem d_HS_reopen_40 : decode (mC m_HS_reopen) 40 = .ok (.invokevirtual 156, 3) := by decide +kernel
theorem d_HS_reopen_43 : decode (mC m_HS_reopen) 43 = .ok (.ireturn, 1) := by decide +kernel
set_option maxRecDepth 20000 in
theorem cs_HS_reopen {E : En} {h : Hp} {x b hy nw sc ni U : Nat} {B : Bu} {Q : Hp → Prop} {i : Nat} (k_x : hK h x = 1) (r_x_2 : hR h x 2 = some b) (r_x_4 : hR h x 4 = some hy) (k_hy : hK h hy = 7) (hB : BuOk h b) (hv9 : vB h b = B) (hG : Gd B nw sc ni U) (hRm : CT E m_HI_remember [.ref hy, .ref b] h 11 156 (fun v h9 => v = none ∧ Q h9) noX) (hQ : ∀ h9, Q h9 → Kx h h9 x b B) (hi : i < sc) (hop1 : B.2.2 i 12 = 0) : CT E m_HS_reopen [.ref x, .int (nI i)] h 11 156 (fun v h1 => ∃ h9, Q h9 ∧ v = some (.int (nI (P_open (sS B i (M_open (B.2.2 i))).2.2 sc))) ∧ h1 = wB h9 b (sS B i (M_open (B.2.2 i)))) noX := by
  refine ct_of rfl (by decide +kernel) (Nat.le_of_ble_eq_true rfl) ?_
  show G E m_HS_reopen 0 [(0, .ref x), (1, .int (nI i))] [] h 11 156 _ noX
  obtain ⟨hw, hn, hs, hm, h0, hni, n3, ⟨sd, hsd, hsx⟩, hop⟩ := id hG.1
  refine g_h (h' := wB h b B) (by rw [← hv9]; exact wB_v.symm) ?_
  refine g_aload_n (pc := 0) d_HS_reopen_0 rfl 0 rfl ?_
  refine g_iload_n (pc := 1) d_HS_reopen_1 rfl 1 rfl ?_
  refine g_cV1 (pc := 2) (ci := 0) (As := [.int _]) d_HS_reopen_2 rfl mv_HS_existingShop st_HS_reopen_119 rfl rfl (by decide) rfl rfl (Nat.le_of_ble_eq_true rfl) k_x (cs_HS_existingShop k_x r_x_2 hB hG hi) ?_
  refine g_astore_n (pc := 5) (lv' := [(2, .ref (sh h b i)), (0, .ref x), (1, .int (nI i))]) d_HS_reopen_5 rfl (by decide) rfl ?_
  refine g_aload_n (pc := 6) d_HS_reopen_6 rfl 0 rfl ?_
  refine g_sgI (pc := 7) (f := 12) rfl d_HS_reopen_7 fl_HS_123 hB (by first | assumption | omega | decide) ?_
  refine g_if_ne (pc := 10) (tgt := 17) d_HS_reopen_10 (by decide) (fun c_10 => ?_) (fun c_10 => ?_)
  · exact absurd hop1 c_10
  · skip
    refine g_iconst (pc := 13) (v := 1) d_HS_reopen_13 (by decide) ?_
    refine g_goto (pc := 14) (tgt := 18) d_HS_reopen_14 (by decide) ?_
    refine g_cS0 (pc := 18) (As := [.int _]) d_HS_reopen_18 rfl ms_HS_requireState st_HS_reopen_129 rfl rfl (Nat.le_of_ble_eq_true rfl) (cs_HS_requireState ) ?_
    refine g_aload_n (pc := 21) d_HS_reopen_21 rfl 1 rfl ?_
    refine g_getR (pc := 22) (ci := 0) (f := 4) (b := hy) rfl r_x_4 d_HS_reopen_22 fl_HS_31 (by decide) k_x ?_
    refine g_aload_n (pc := 25) d_HS_reopen_25 rfl 1 rfl ?_
    refine g_getR (pc := 26) (ci := 0) (f := 2) (b := b) rfl r_x_2 d_HS_reopen_26 fl_HS_50 (by decide) k_x ?_
    refine g_h (h' := h) (by rw [← hv9]; exact wB_v) ?_
    refine g_callV (k := 0) (n := 0) (kz := 11) (nz := 156) (pc := 29) (ci := 6) (As := [.ref _]) d_HS_reopen_29 rfl mv_HI_remember st_HS_reopen_88 rfl rfl (by decide) k_hy rfl rfl (Nat.le_of_ble_eq_true rfl) hRm (fun _ _ z => z.elim) (fun v h9 z => ?_)
    obtain ⟨rfl, q9⟩ := z
    obtain ⟨b9, v9, s9, x9, k9⟩ := hQ h9 q9
    refine g_h (h' := wB h9 b B) (by rw [← v9]; exact wB_v.symm) ?_
    have hBo := hB
    have r_o := r_x_2
    clear hB
    have hB := b9
    have k_x := k9.trans k_x
    have r_x_2 := (congrFun x9 2).trans r_x_2
    rw [← s9 i (by omega)]
    refine g_aload_n (pc := 32) d_HS_reopen_32 rfl 0 rfl ?_
    refine g_cV0 (pc := 33) (ci := 5) (As := []) d_HS_reopen_33 rfl mv_SH_openAgain st_HS_reopen_153 rfl rfl (by decide) rfl rfl (Nat.le_of_ble_eq_true rfl) (hB.sk (by first | assumption | omega | decide)) (cb_openAgain hB (by first | assumption | omega | decide)) ?_
    refine g_aload_n (pc := 36) d_HS_reopen_36 rfl 1 rfl ?_
    refine g_getR (pc := 37) (ci := 0) (f := 2) (b := b) rfl r_x_2 d_HS_reopen_37 fl_HS_50 (by decide) k_x ?_
    refine g_cV1 (pc := 40) (ci := 4) (As := []) d_HS_reopen_40 rfl mv_BU_countOpen st_HS_reopen_156 rfl rfl (by decide) rfl rfl (Nat.le_of_ble_eq_true rfl) hB.1 (cb_countOpen (B := sS B i (M_open (B.2.2 i))) hB hs hm) ?_
    refine g_iret (pc := 43) d_HS_reopen_43 rfl ?_
    exact ⟨h9, q9, rfl, rfl⟩
set_option maxRecDepth 20000 in
theorem ce_HS_reopenS {E : En} {h : Hp} {x b nw sc ni U : Nat} {B : Bu} {i : Nat} (hE : (eL E).stackTraces = false) (k_x : hK h x = 1) (r_x_2 : hR h x 2 = some b) (hB : BuOk h b) (hG : Gd B nw sc ni U) (hi : i < sc) (hop1 : B.2.2 i 12 = 1) : CE E m_HS_reopen [.ref x, .int (nI i)] (wB h b B) "java/lang/IllegalStateException" := by
  refine ct_of rfl (by decide +kernel) (Nat.le_of_ble_eq_true rfl) ?_
  show G E m_HS_reopen 0 [(0, .ref x), (1, .int (nI i))] [] (wB h b B) 1 6 _ _
  obtain ⟨hw, hn, hs, hm, h0, hni, n3, ⟨sd, hsd, hsx⟩, hop⟩ := id hG.1
  refine g_aload_n (pc := 0) d_HS_reopen_0 rfl 0 rfl ?_
  refine g_iload_n (pc := 1) d_HS_reopen_1 rfl 1 rfl ?_
  refine g_cV1 (pc := 2) (ci := 0) (As := [.int _]) d_HS_reopen_2 rfl mv_HS_existingShop st_HS_reopen_119 rfl rfl (by decide) rfl rfl (Nat.le_of_ble_eq_true rfl) k_x (cs_HS_existingShop k_x r_x_2 hB hG hi) ?_
  refine g_astore_n (pc := 5) (lv' := [(2, .ref (sh h b i)), (0, .ref x), (1, .int (nI i))]) d_HS_reopen_5 rfl (by decide) rfl ?_
  refine g_aload_n (pc := 6) d_HS_reopen_6 rfl 0 rfl ?_
  refine g_sgI (pc := 7) (f := 12) rfl d_HS_reopen_7 fl_HS_123 hB (by first | assumption | omega | decide) ?_
  refine g_if_ne (pc := 10) (tgt := 17) d_HS_reopen_10 (by decide) (fun c_10 => ?_) (fun c_10 => ?_)
  · skip
    refine g_iconst (pc := 17) (v := 0) d_HS_reopen_17 (by decide) ?_
    exact g_eS (k := 0) (n := 0) (pc := 18) (As := [.int _]) d_HS_reopen_18 rfl ms_HS_requireState st_HS_reopen_129 rfl rfl (Nat.le_of_ble_eq_true rfl) (ce_HS_requireState hE) ⟨rfl, rfl⟩
  · exact absurd (hop1.symm.trans c_10) (by decide)
theorem d_HS_setInspectors_0 : decode (mC m_HS_setInspectors) 0 = .ok (.iload_n 1, 1) := by decide +kernel
theorem d_HS_setInspectors_1 : decode (mC m_HS_setInspectors) 1 = .ok (.iconst 0, 1) := by decide +kernel
theorem d_HS_setInspectors_2 : decode (mC m_HS_setInspectors) 2 = .ok (.iconst 3, 1) := by decide +kernel
theorem d_HS_setInspectors_3 : decode (mC m_HS_setInspectors) 3 = .ok (.invokestatic 70, 3) := by decide +kernel
theorem d_HS_setInspectors_6 : decode (mC m_HS_setInspectors) 6 = .ok (.aload_n 0, 1) := by decide +kernel
theorem d_HS_setInspectors_7 : decode (mC m_HS_setInspectors) 7 = .ok (.getfield 31, 3) := by decide +kernel
theorem d_HS_setInspectors_10 : decode (mC m_HS_setInspectors) 10 = .ok (.aload_n 0, 1) := by decide +kernel
theorem d_HS_setInspectors_11 : decode (mC m_HS_setInspectors) 11 = .ok (.getfield 50, 3) := by decide +kernel
theorem d_HS_setInspectors_14 : decode (mC m_HS_setInspectors) 14 = .ok (.invokevirtual 88, 3) := by decide +kernel
theorem d_HS_setInspectors_17 : decode (mC m_HS_setInspectors) 17 = .ok (.aload_n 0, 1) := by decide +kernel
theorem d_HS_setInspectors_18 : decode (mC m_HS_setInspectors) 18 = .ok (.getfield 50, 3) := by decide +kernel
theorem d_HS_setInspectors_21 : decode (mC m_HS_setInspectors) 21 = .ok (.getfield 160, 3) := by decide +kernel
theorem d_HS_setInspectors_24 : decode (mC m_HS_setInspectors) 24 = .ok (.istore_n 2, 1) := by decide +kernel
theorem d_HS_setInspectors_25 : decode (mC m_HS_setInspectors) 25 = .ok (.aload_n 0, 1) := by decide +kernel
theorem d_HS_setInspectors_26 : decode (mC m_HS_setInspectors) 26 = .ok (.getfield 50, 3) := by decide +kernel
theorem d_HS_setInspectors_29 : decode (mC m_HS_setInspectors) 29 = .ok (.iload_n 1, 1) := by decide +kernel
theorem d_HS_setInspectors_30 : decode (mC m_HS_setInspectors) 30 = .ok (.putfield 160, 3) := by decide +kernel
theorem d_HS_setInspectors_33 : decode (mC m_HS_setInspectors) 33 = .ok (.iload_n 2, 1) := by decide +kernel
theorem d_HS_setInspectors_34 : decode (mC m_HS_setInspectors) 34 = .ok (.ireturn, 1) := by decide +kernel
set_option maxRecDepth 20000 in
theorem cs_HS_setInspectors {E : En} {h : Hp} {x b hy nw sc ni U : Nat} {B : Bu} {Q : Hp → Prop} {yv : Int32} (k_x : hK h x = 1) (r_x_2 : hR h x 2 = some b) (r_x_4 : hR h x 4 = some hy) (k_hy : hK h hy = 7) (hB : BuOk h b) (hv9 : vB h b = B) (hG : Gd B nw sc ni U) (hRm : CT E m_HI_remember [.ref hy, .ref b] h 11 156 (fun v h9 => v = none ∧ Q h9) noX) (hQ : ∀ h9, Q h9 → Kx h h9 x b B) (hr1 : 0 ≤ yv) (hr2 : yv ≤ 3) : CT E m_HS_setInspectors [.ref x, .int yv] h 11 156 (fun v h1 => ∃ h9, Q h9 ∧ v = some (.int (B.1 5)) ∧ h1 = wB h9 b (sC B (u1 B.1 5 yv))) noX := by
  refine ct_of rfl (by decide +kernel) (Nat.le_of_ble_eq_true rfl) ?_
  show G E m_HS_setInspectors 0 [(0, .ref x), (1, .int yv)] [] h 11 156 _ noX
  obtain ⟨hw, hn, hs, hm, h0, hni, n3, ⟨sd, hsd, hsx⟩, hop⟩ := id hG.1
  refine g_h (h' := wB h b B) (by rw [← hv9]; exact wB_v.symm) ?_
  refine g_iload_n (pc := 0) d_HS_setInspectors_0 rfl 1 rfl ?_
  refine g_iconst (pc := 1) (v := 0) d_HS_setInspectors_1 (by decide) ?_
  refine g_iconst (pc := 2) (v := 3) d_HS_setInspectors_2 (by decide) ?_
  refine g_cS0 (pc := 3) (As := [.int _, .int _, .int _]) d_HS_setInspectors_3 rfl ms_HS_requireRange st_HS_setInspectors_70 rfl rfl (Nat.le_of_ble_eq_true rfl) (cs_HS_requireRange hr1 hr2) ?_
  refine g_aload_n (pc := 6) d_HS_setInspectors_6 rfl 0 rfl ?_
  refine g_getR (pc := 7) (ci := 0) (f := 4) (b := hy) rfl r_x_4 d_HS_setInspectors_7 fl_HS_31 (by decide) k_x ?_
  refine g_aload_n (pc := 10) d_HS_setInspectors_10 rfl 0 rfl ?_
  refine g_getR (pc := 11) (ci := 0) (f := 2) (b := b) rfl r_x_2 d_HS_setInspectors_11 fl_HS_50 (by decide) k_x ?_
  refine g_h (h' := h) (by rw [← hv9]; exact wB_v) ?_
  refine g_callV (k := 0) (n := 0) (kz := 11) (nz := 156) (pc := 14) (ci := 6) (As := [.ref _]) d_HS_setInspectors_14 rfl mv_HI_remember st_HS_setInspectors_88 rfl rfl (by decide) k_hy rfl rfl (Nat.le_of_ble_eq_true rfl) hRm (fun _ _ z => z.elim) (fun v h9 z => ?_)
  obtain ⟨rfl, q9⟩ := z
  obtain ⟨b9, v9, s9, x9, k9⟩ := hQ h9 q9
  refine g_h (h' := wB h9 b B) (by rw [← v9]; exact wB_v.symm) ?_
  have hBo := hB
  have r_o := r_x_2
  clear hB
  have hB := b9
  have k_x := k9.trans k_x
  have r_x_2 := (congrFun x9 2).trans r_x_2
  refine g_aload_n (pc := 17) d_HS_setInspectors_17 rfl 0 rfl ?_
  refine g_getR (pc := 18) (ci := 0) (f := 2) (b := b) rfl r_x_2 d_HS_setInspectors_18 fl_HS_50 (by decide) k_x ?_
  refine g_bgI (pc := 21) (f := 5) rfl d_HS_setInspectors_21 fl_HS_160 hB ?_
  refine g_istore_n (pc := 24) (lv' := [(2, .int (B.1 5)), (0, .ref x), (1, .int yv)]) d_HS_setInspectors_24 rfl (by decide) rfl ?_
  refine g_aload_n (pc := 25) d_HS_setInspectors_25 rfl 1 rfl ?_
  refine g_getR (pc := 26) (ci := 0) (f := 2) (b := b) rfl r_x_2 d_HS_setInspectors_26 fl_HS_50 (by decide) k_x ?_
  refine g_iload_n (pc := 29) d_HS_setInspectors_29 rfl 2 rfl ?_
  refine g_bpI (pc := 30) (f := 5) rfl d_HS_setInspectors_30 fl_HS_160 (fun q hq => by cases hq; exact rfl) rfl rfl hB ?_
  refine g_iload_n (pc := 33) d_HS_setInspectors_33 rfl 0 rfl ?_
  refine g_iret (pc := 34) d_HS_setInspectors_34 rfl ?_
  exact ⟨h9, q9, rfl, rfl⟩
theorem d_HS_setFee_0 : decode (mC m_HS_setFee) 0 = .ok (.iload_n 1, 1) := by decide +kernel
theorem d_HS_setFee_1 : decode (mC m_HS_setFee) 1 = .ok (.iconst 0, 1) := by decide +kernel
theorem d_HS_setFee_2 : decode (mC m_HS_setFee) 2 = .ok (.bipush 99, 2) := by decide +kernel
theorem d_HS_setFee_4 : decode (mC m_HS_setFee) 4 = .ok (.invokestatic 70, 3) := by decide +kernel
theorem d_HS_setFee_7 : decode (mC m_HS_setFee) 7 = .ok (.aload_n 0, 1) := by decide +kernel
theorem d_HS_setFee_8 : decode (mC m_HS_setFee) 8 = .ok (.getfield 31, 3) := by decide +kernel
theorem d_HS_setFee_11 : decode (mC m_HS_setFee) 11 = .ok (.aload_n 0, 1) := by decide +kernel
theorem d_HS_setFee_12 : decode (mC m_HS_setFee) 12 = .ok (.getfield 50, 3) := by decide +kernel
theorem d_HS_setFee_15 : decode (mC m_HS_setFee) 15 = .ok (.invokevirtual 88, 3) := by decide +kernel
theorem d_HS_setFee_18 : decode (mC m_HS_setFee) 18 = .ok (.aload_n 0, 1) := by decide +kernel
theorem d_HS_setFee_19 : decode (mC m_HS_setFee) 19 = .ok (.getfield 50, 3) := by decide +kernel
theorem d_HS_setFee_22 : decode (mC m_HS_setFee) 22 = .ok (.getfield 163, 3) := by decide +kernel
theorem d_HS_setFee_25 : decode (mC m_HS_setFee) 25 = .ok (.istore_n 2, 1) := by decide +kernel
theorem d_HS_setFee_26 : decode (mC m_HS_setFee) 26 = .ok (.aload_n 0, 1) := by decide +kernel
theorem d_HS_setFee_27 : decode (mC m_HS_setFee) 27 = .ok (.getfield 50, 3) := by decide +kernel
theorem d_HS_setFee_30 : decode (mC m_HS_setFee) 30 = .ok (.iload_n 1, 1) := by decide +kernel
theorem d_HS_setFee_31 : decode (mC m_HS_setFee) 31 = .ok (.putfield 163, 3) := by decide +kernel
theorem d_HS_setFee_34 : decode (mC m_HS_setFee) 34 = .ok (.iload_n 2, 1) := by decide +kernel
theorem d_HS_setFee_35 : decode (mC m_HS_setFee) 35 = .ok (.ireturn, 1) := by decide +kernel
set_option maxRecDepth 20000 in
theorem cs_HS_setFee {E : En} {h : Hp} {x b hy nw sc ni U : Nat} {B : Bu} {Q : Hp → Prop} {yv : Int32} (k_x : hK h x = 1) (r_x_2 : hR h x 2 = some b) (r_x_4 : hR h x 4 = some hy) (k_hy : hK h hy = 7) (hB : BuOk h b) (hv9 : vB h b = B) (hG : Gd B nw sc ni U) (hRm : CT E m_HI_remember [.ref hy, .ref b] h 11 156 (fun v h9 => v = none ∧ Q h9) noX) (hQ : ∀ h9, Q h9 → Kx h h9 x b B) (hr1 : 0 ≤ yv) (hr2 : yv ≤ 99) : CT E m_HS_setFee [.ref x, .int yv] h 11 156 (fun v h1 => ∃ h9, Q h9 ∧ v = some (.int (B.1 2)) ∧ h1 = wB h9 b (sC B (u1 B.1 2 yv))) noX := by
  refine ct_of rfl (by decide +kernel) (Nat.le_of_ble_eq_true rfl) ?_
  show G E m_HS_setFee 0 [(0, .ref x), (1, .int yv)] [] h 11 156 _ noX
  obtain ⟨hw, hn, hs, hm, h0, hni, n3, ⟨sd, hsd, hsx⟩, hop⟩ := id hG.1
  refine g_h (h' := wB h b B) (by rw [← hv9]; exact wB_v.symm) ?_
  refine g_iload_n (pc := 0) d_HS_setFee_0 rfl 1 rfl ?_
  refine g_iconst (pc := 1) (v := 0) d_HS_setFee_1 (by decide) ?_
  refine g_bipush (pc := 2) (v := 99) d_HS_setFee_2 (by decide) ?_
  refine g_cS0 (pc := 4) (As := [.int _, .int _, .int _]) d_HS_setFee_4 rfl ms_HS_requireRange st_HS_setFee_70 rfl rfl (Nat.le_of_ble_eq_true rfl) (cs_HS_requireRange hr1 hr2) ?_
  refine g_aload_n (pc := 7) d_HS_setFee_7 rfl 0 rfl ?_
  refine g_getR (pc := 8) (ci := 0) (f := 4) (b := hy) rfl r_x_4 d_HS_setFee_8 fl_HS_31 (by decide) k_x ?_
  refine g_aload_n (pc := 11) d_HS_setFee_11 rfl 0 rfl ?_
  refine g_getR (pc := 12) (ci := 0) (f := 2) (b := b) rfl r_x_2 d_HS_setFee_12 fl_HS_50 (by decide) k_x ?_
  refine g_h (h' := h) (by rw [← hv9]; exact wB_v) ?_
  refine g_callV (k := 0) (n := 0) (kz := 11) (nz := 156) (pc := 15) (ci := 6) (As := [.ref _]) d_HS_setFee_15 rfl mv_HI_remember st_HS_setFee_88 rfl rfl (by decide) k_hy rfl rfl (Nat.le_of_ble_eq_true rfl) hRm (fun _ _ z => z.elim) (fun v h9 z => ?_)
  obtain ⟨rfl, q9⟩ := z
  obtain ⟨b9, v9, s9, x9, k9⟩ := hQ h9 q9
  refine g_h (h' := wB h9 b B) (by rw [← v9]; exact wB_v.symm) ?_
  have hBo := hB
  have r_o := r_x_2
  clear hB
  have hB := b9
  have k_x := k9.trans k_x
  have r_x_2 := (congrFun x9 2).trans r_x_2
  refine g_aload_n (pc := 18) d_HS_setFee_18 rfl 0 rfl ?_
  refine g_getR (pc := 19) (ci := 0) (f := 2) (b := b) rfl r_x_2 d_HS_setFee_19 fl_HS_50 (by decide) k_x ?_
  refine g_bgI (pc := 22) (f := 2) rfl d_HS_setFee_22 fl_HS_163 hB ?_
  refine g_istore_n (pc := 25) (lv' := [(2, .int (B.1 2)), (0, .ref x), (1, .int yv)]) d_HS_setFee_25 rfl (by decide) rfl ?_
  refine g_aload_n (pc := 26) d_HS_setFee_26 rfl 1 rfl ?_
  refine g_getR (pc := 27) (ci := 0) (f := 2) (b := b) rfl r_x_2 d_HS_setFee_27 fl_HS_50 (by decide) k_x ?_
  refine g_iload_n (pc := 30) d_HS_setFee_30 rfl 2 rfl ?_
  refine g_bpI (pc := 31) (f := 2) rfl d_HS_setFee_31 fl_HS_163 (fun q hq => by cases hq; exact rfl) rfl rfl hB ?_
  refine g_iload_n (pc := 34) d_HS_setFee_34 rfl 0 rfl ?_
  refine g_iret (pc := 35) d_HS_setFee_35 rfl ?_
  exact ⟨h9, q9, rfl, rfl⟩
