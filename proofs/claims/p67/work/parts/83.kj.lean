/-! THE LAW: what is refused is caught -/
theorem hc_LW_visitO : HC m_LW_visitO 2 "java/lang/IllegalStateException" 6 := ⟨[], (0, 5, 6, 247), [], rfl, (fun z hz => absurd hz List.not_mem_nil), ⟨by decide, by decide⟩, by decide, rfl, "java/lang/IllegalStateException", tg_5 22 rfl rfl, tn_4 113 rfl rfl⟩
set_option maxRecDepth 20000 in
theorem cw_LW_visitO {E : En} {h : Hp} {x : Nat} {y0 : Int32} {P : Option Value → Hp → Prop} (k_x : hK h x = 1) (hc : CT E m_HS_visit [.ref x, .int y0] h 11 156 P noX) (hv : ∀ v h1, P v h1 → ∃ y, v = some (.int y)) : CT E m_LW_visitO [.ref x, .int y0] h 11 156 P noX := by
  refine ct_ofH (by decide) (by decide +kernel) (Nat.le_of_ble_eq_true rfl) ?_
  show G E m_LW_visitO 0 [(0, .ref x), (1, .int y0)] [] h (0 + 11) (0 + 156) _ noX
  refine g_aload_n (pc := 0) d_LW_visitO_0 rfl 0 rfl ?_
  refine g_iload_n (pc := 1) d_LW_visitO_1 rfl 1 rfl ?_
  refine g_callVH (k := 0) (n := 0) (pc := 2) (ci := 0) (As := [.int _]) d_LW_visitO_2 mv_HS_visit st_LW_visitO_245 rfl rfl (by decide) k_x rfl rfl (Nat.le_of_ble_eq_true rfl) hc (fun _ _ z => z.elim) (fun v h1 z => ?_)
  obtain ⟨y, rfl⟩ := hv v h1 z
  refine g_iret (pc := 5) d_LW_visitO_5 rfl ?_
  exact z
set_option maxRecDepth 20000 in
theorem cz_LW_visitO {E : En} {h : Hp} {x : Nat} {y0 : Int32} (k_x : hK h x = 1) (hc : CE E m_HS_visit [.ref x, .int y0] h "java/lang/IllegalStateException") : CT E m_LW_visitO [.ref x, .int y0] h 11 156 (fun v h1 => v = some (.int (-100)) ∧ h1 = h) noX := by
  refine ct_ofH (by decide) (by decide +kernel) (Nat.le_of_ble_eq_true rfl) ?_
  show G E m_LW_visitO 0 [(0, .ref x), (1, .int y0)] [] h (10 + 1) (150 + 6) _ noX
  refine g_aload_n (pc := 0) d_LW_visitO_0 rfl 0 rfl ?_
  refine g_iload_n (pc := 1) d_LW_visitO_1 rfl 1 rfl ?_
  refine g_callVH (k := 10) (n := 150) (pc := 2) (ci := 0) (As := [.int _]) d_LW_visitO_2 mv_HS_visit st_LW_visitO_245 rfl rfl (by decide) k_x rfl rfl (Nat.le_of_ble_eq_true rfl) hc (fun C h1 z => ?_) (fun _ _ z => z.elim)
  obtain ⟨rfl, rfl⟩ := z
  refine ⟨_, hc_LW_visitO, fun q => ?_⟩
  refine g_astore_n (pc := 6) (lv' := [(2, .ref q), (0, .ref x), (1, .int y0)]) d_LW_visitO_6 rfl (by decide) rfl ?_
  refine g_bipush (pc := 7) (v := (-100)) d_LW_visitO_7 (by decide) ?_
  refine g_iret (pc := 9) d_LW_visitO_9 rfl ?_
  exact ⟨rfl, rfl⟩
theorem hc_LW_repairO : HC m_LW_repairO 2 "java/lang/IllegalStateException" 6 := ⟨[], (0, 5, 6, 247), [], rfl, (fun z hz => absurd hz List.not_mem_nil), ⟨by decide, by decide⟩, by decide, rfl, "java/lang/IllegalStateException", tg_5 22 rfl rfl, tn_4 113 rfl rfl⟩
set_option maxRecDepth 20000 in
theorem cw_LW_repairO {E : En} {h : Hp} {x : Nat} {y0 : Int32} {P : Option Value → Hp → Prop} (k_x : hK h x = 1) (hc : CT E m_HS_repair [.ref x, .int y0] h 11 156 P noX) (hv : ∀ v h1, P v h1 → ∃ y, v = some (.int y)) : CT E m_LW_repairO [.ref x, .int y0] h 11 156 P noX := by
  refine ct_ofH (by decide) (by decide +kernel) (Nat.le_of_ble_eq_true rfl) ?_
  show G E m_LW_repairO 0 [(0, .ref x), (1, .int y0)] [] h (0 + 11) (0 + 156) _ noX
  refine g_aload_n (pc := 0) d_LW_repairO_0 rfl 0 rfl ?_
  refine g_iload_n (pc := 1) d_LW_repairO_1 rfl 1 rfl ?_
  refine g_callVH (k := 0) (n := 0) (pc := 2) (ci := 0) (As := [.int _]) d_LW_repairO_2 mv_HS_repair st_LW_repairO_249 rfl rfl (by decide) k_x rfl rfl (Nat.le_of_ble_eq_true rfl) hc (fun _ _ z => z.elim) (fun v h1 z => ?_)
  obtain ⟨y, rfl⟩ := hv v h1 z
  refine g_iret (pc := 5) d_LW_repairO_5 rfl ?_
  exact z
set_option maxRecDepth 20000 in
theorem cz_LW_repairO {E : En} {h : Hp} {x : Nat} {y0 : Int32} (k_x : hK h x = 1) (hc : CE E m_HS_repair [.ref x, .int y0] h "java/lang/IllegalStateException") : CT E m_LW_repairO [.ref x, .int y0] h 11 156 (fun v h1 => v = some (.int (-100000)) ∧ h1 = h) noX := by
  refine ct_ofH (by decide) (by decide +kernel) (Nat.le_of_ble_eq_true rfl) ?_
  show G E m_LW_repairO 0 [(0, .ref x), (1, .int y0)] [] h (10 + 1) (150 + 6) _ noX
  refine g_aload_n (pc := 0) d_LW_repairO_0 rfl 0 rfl ?_
  refine g_iload_n (pc := 1) d_LW_repairO_1 rfl 1 rfl ?_
  refine g_callVH (k := 10) (n := 150) (pc := 2) (ci := 0) (As := [.int _]) d_LW_repairO_2 mv_HS_repair st_LW_repairO_249 rfl rfl (by decide) k_x rfl rfl (Nat.le_of_ble_eq_true rfl) hc (fun C h1 z => ?_) (fun _ _ z => z.elim)
  obtain ⟨rfl, rfl⟩ := z
  refine ⟨_, hc_LW_repairO, fun q => ?_⟩
  refine g_astore_n (pc := 6) (lv' := [(2, .ref q), (0, .ref x), (1, .int y0)]) d_LW_repairO_6 rfl (by decide) rfl ?_
  refine g_ldci (pc := 7) d_LW_repairO_7 co_LW_252 ?_
  refine g_iret (pc := 9) d_LW_repairO_9 rfl ?_
  exact ⟨rfl, rfl⟩
theorem hc_LW_complainO : HC m_LW_complainO 2 "java/lang/IllegalStateException" 6 := ⟨[], (0, 5, 6, 247), [], rfl, (fun z hz => absurd hz List.not_mem_nil), ⟨by decide, by decide⟩, by decide, rfl, "java/lang/IllegalStateException", tg_5 22 rfl rfl, tn_4 113 rfl rfl⟩
set_option maxRecDepth 20000 in
theorem cw_LW_complainO {E : En} {h : Hp} {x : Nat} {y0 : Int32} {P : Option Value → Hp → Prop} (k_x : hK h x = 1) (hc : CT E m_HS_complain [.ref x, .int y0] h 11 156 P noX) (hv : ∀ v h1, P v h1 → ∃ y, v = some (.int y)) : CT E m_LW_complainO [.ref x, .int y0] h 11 156 P noX := by
  refine ct_ofH (by decide) (by decide +kernel) (Nat.le_of_ble_eq_true rfl) ?_
  show G E m_LW_complainO 0 [(0, .ref x), (1, .int y0)] [] h (0 + 11) (0 + 156) _ noX
  refine g_aload_n (pc := 0) d_LW_complainO_0 rfl 0 rfl ?_
  refine g_iload_n (pc := 1) d_LW_complainO_1 rfl 1 rfl ?_
  refine g_callVH (k := 0) (n := 0) (pc := 2) (ci := 0) (As := [.int _]) d_LW_complainO_2 mv_HS_complain st_LW_complainO_253 rfl rfl (by decide) k_x rfl rfl (Nat.le_of_ble_eq_true rfl) hc (fun _ _ z => z.elim) (fun v h1 z => ?_)
  obtain ⟨y, rfl⟩ := hv v h1 z
  refine g_iret (pc := 5) d_LW_complainO_5 rfl ?_
  exact z
set_option maxRecDepth 20000 in
theorem cz_LW_complainO {E : En} {h : Hp} {x : Nat} {y0 : Int32} (k_x : hK h x = 1) (hc : CE E m_HS_complain [.ref x, .int y0] h "java/lang/IllegalStateException") : CT E m_LW_complainO [.ref x, .int y0] h 11 156 (fun v h1 => v = some (.int (-100)) ∧ h1 = h) noX := by
  refine ct_ofH (by decide) (by decide +kernel) (Nat.le_of_ble_eq_true rfl) ?_
  show G E m_LW_complainO 0 [(0, .ref x), (1, .int y0)] [] h (10 + 1) (150 + 6) _ noX
  refine g_aload_n (pc := 0) d_LW_complainO_0 rfl 0 rfl ?_
  refine g_iload_n (pc := 1) d_LW_complainO_1 rfl 1 rfl ?_
  refine g_callVH (k := 10) (n := 150) (pc := 2) (ci := 0) (As := [.int _]) d_LW_complainO_2 mv_HS_complain st_LW_complainO_253 rfl rfl (by decide) k_x rfl rfl (Nat.le_of_ble_eq_true rfl) hc (fun C h1 z => ?_) (fun _ _ z => z.elim)
  obtain ⟨rfl, rfl⟩ := z
  refine ⟨_, hc_LW_complainO, fun q => ?_⟩
  refine g_astore_n (pc := 6) (lv' := [(2, .ref q), (0, .ref x), (1, .int y0)]) d_LW_complainO_6 rfl (by decide) rfl ?_
  refine g_bipush (pc := 7) (v := (-100)) d_LW_complainO_7 (by decide) ?_
  refine g_iret (pc := 9) d_LW_complainO_9 rfl ?_
  exact ⟨rfl, rfl⟩
theorem hc_LW_reopenO : HC m_LW_reopenO 2 "java/lang/IllegalStateException" 6 := ⟨[], (0, 5, 6, 247), [], rfl, (fun z hz => absurd hz List.not_mem_nil), ⟨by decide, by decide⟩, by decide, rfl, "java/lang/IllegalStateException", tg_5 22 rfl rfl, tn_4 113 rfl rfl⟩
set_option maxRecDepth 20000 in
theorem cw_LW_reopenO {E : En} {h : Hp} {x : Nat} {y0 : Int32} {P : Option Value → Hp → Prop} (k_x : hK h x = 1) (hc : CT E m_HS_reopen [.ref x, .int y0] h 11 156 P noX) (hv : ∀ v h1, P v h1 → ∃ y, v = some (.int y)) : CT E m_LW_reopenO [.ref x, .int y0] h 11 156 P noX := by
  refine ct_ofH (by decide) (by decide +kernel) (Nat.le_of_ble_eq_true rfl) ?_
  show G E m_LW_reopenO 0 [(0, .ref x), (1, .int y0)] [] h (0 + 11) (0 + 156) _ noX
  refine g_aload_n (pc := 0) d_LW_reopenO_0 rfl 0 rfl ?_
  refine g_iload_n (pc := 1) d_LW_reopenO_1 rfl 1 rfl ?_
  refine g_callVH (k := 0) (n := 0) (pc := 2) (ci := 0) (As := [.int _]) d_LW_reopenO_2 mv_HS_reopen st_LW_reopenO_256 rfl rfl (by decide) k_x rfl rfl (Nat.le_of_ble_eq_true rfl) hc (fun _ _ z => z.elim) (fun v h1 z => ?_)
  obtain ⟨y, rfl⟩ := hv v h1 z
  refine g_iret (pc := 5) d_LW_reopenO_5 rfl ?_
  exact z
set_option maxRecDepth 20000 in
theorem cz_LW_reopenO {E : En} {h : Hp} {x : Nat} {y0 : Int32} (k_x : hK h x = 1) (hc : CE E m_HS_reopen [.ref x, .int y0] h "java/lang/IllegalStateException") : CT E m_LW_reopenO [.ref x, .int y0] h 11 156 (fun v h1 => v = some (.int (-100)) ∧ h1 = h) noX := by
  refine ct_ofH (by decide) (by decide +kernel) (Nat.le_of_ble_eq_true rfl) ?_
  show G E m_LW_reopenO 0 [(0, .ref x), (1, .int y0)] [] h (10 + 1) (150 + 6) _ noX
  refine g_aload_n (pc := 0) d_LW_reopenO_0 rfl 0 rfl ?_
  refine g_iload_n (pc := 1) d_LW_reopenO_1 rfl 1 rfl ?_
  refine g_callVH (k := 10) (n := 150) (pc := 2) (ci := 0) (As := [.int _]) d_LW_reopenO_2 mv_HS_reopen st_LW_reopenO_256 rfl rfl (by decide) k_x rfl rfl (Nat.le_of_ble_eq_true rfl) hc (fun C h1 z => ?_) (fun _ _ z => z.elim)
  obtain ⟨rfl, rfl⟩ := z
  refine ⟨_, hc_LW_reopenO, fun q => ?_⟩
  refine g_astore_n (pc := 6) (lv' := [(2, .ref q), (0, .ref x), (1, .int y0)]) d_LW_reopenO_6 rfl (by decide) rfl ?_
  refine g_bipush (pc := 7) (v := (-100)) d_LW_reopenO_7 (by decide) ?_
  refine g_iret (pc := 9) d_LW_reopenO_9 rfl ?_
  exact ⟨rfl, rfl⟩
