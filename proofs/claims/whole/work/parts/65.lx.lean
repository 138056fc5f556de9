/-! THE LAW'S HELPERS: what they return -/
theorem g_less {E : En} {M : Mt} {pc : Nat} {lv : List (Nat × Value)} {st : List Value} {h : Hp} {k n k9 n9 : Nat} {P : Option Value → Hp → Prop} {X : String → Hp → Prop} (hk : k ≤ k9) (hn : n ≤ n9) (g : G E M pc lv st h k n P X) : G E M pc lv st h k9 n9 P X := fun p e R s m args below meth c H locs cells slots ls C r h1 h2 hl => g p e R s m args below meth c H locs cells slots ls C r (by omega) (by omega) hl
theorem ws_append {E : En} {h : Hp} {x out kz nz : Nat} {y0 y1 y2 y3 y4 : Int32} {Q : Int32 → Hp → Prop} (k_x : hK h x = 1) (hq : ∀ z h9, Q z h9 → hK h9 out = 24 ∧ hL h9 out = 1) (hc : CT E m_HS_append [.ref x, .int y0, .int y1, .int y2, .int y3, .int y4] h kz nz (fun v h1 => ∃ z, v = some (.int z) ∧ Q z h1) noX) (hk : kz ≤ 11) (hn : nz ≤ 156) : CT E m_LW_append [.ref x, .int y0, .int y1, .int y2, .int y3, .int y4, .ref out] h 11 156 (fun v h1 => v = some (.int 0) ∧ ∃ z h9, Q z h9 ∧ h1 = sJ h9 out 0 z.toInt64) noX := by
  refine ct_ofH (by decide) (by decide +kernel) (Nat.le_of_ble_eq_true rfl) ?_
  show G E m_LW_append 0 [(0, .ref x), (1, .int y0), (2, .int y1), (3, .int y2), (4, .int y3), (5, .int y4), (6, .ref out)] [] h 11 156 _ noX
  refine g_less hk hn ?_
  show G E m_LW_append 0 [(0, .ref x), (1, .int y0), (2, .int y1), (3, .int y2), (4, .int y3), (5, .int y4), (6, .ref out)] [] h kz nz _ noX
  rw [← Nat.zero_add kz, ← Nat.zero_add nz]
  refine g_aload (pc := 0) d_LW_append_0 6 rfl ?_
  refine g_iconst (pc := 2) (v := 0) d_LW_append_2 (by decide) ?_
  refine g_aload_n (pc := 3) d_LW_append_3 rfl 0 rfl ?_
  refine g_iload_n (pc := 4) d_LW_append_4 rfl 1 rfl ?_
  refine g_iload_n (pc := 5) d_LW_append_5 rfl 2 rfl ?_
  refine g_iload_n (pc := 6) d_LW_append_6 rfl 3 rfl ?_
  refine g_iload (pc := 7) d_LW_append_7 4 rfl ?_
  refine g_iload (pc := 9) d_LW_append_9 5 rfl ?_
  refine g_callVH (k := 0) (n := 0) (pc := 11) (ci := 0) (As := [.int _, .int _, .int _, .int _, .int _]) d_LW_append_11 mv_HS_append st_LW_append_7 rfl rfl (by decide) k_x rfl rfl (Nat.le_of_ble_eq_true rfl) hc (fun _ _ z => z.elim) (fun v h1 z => ?_)
  obtain ⟨z, rfl, q⟩ := z
  obtain ⟨k_out, l_out⟩ := hq z h1 q
  refine g_i2l (pc := 14) d_LW_append_14 ?_
  refine g_lastore (pc := 15) d_LW_append_15 k_out (by rw [l_out]; exact vp_in_nI (n := 0) (N := 1) (by decide) (by decide)) ?_
  refine g_goto (pc := 16) (tgt := 23) d_LW_append_16 (by decide) ?_
  refine g_iconst (pc := 23) (v := 0) d_LW_append_23 (by decide) ?_
  refine g_iret (pc := 24) d_LW_append_24 rfl ?_
  exact ⟨rfl, z, h1, q, rfl⟩
theorem we_append_1 {E : En} {h : Hp} {x out kz nz : Nat} {y0 y1 y2 y3 y4 : Int32} {Q : Hp → Prop} (k_x : hK h x = 1) (hc : CT E m_HS_append [.ref x, .int y0, .int y1, .int y2, .int y3, .int y4] h kz nz (fun _ _ => False) (fun C h1 => C = "java/lang/IllegalStateException" ∧ Q h1)) (hk : kz ≤ 11) (hn : nz ≤ 156) : CT E m_LW_append [.ref x, .int y0, .int y1, .int y2, .int y3, .int y4, .ref out] h 11 156 (fun v h1 => v = some (.int 1) ∧ Q h1) noX := by
  refine ct_ofH (by decide) (by decide +kernel) (Nat.le_of_ble_eq_true rfl) ?_
  show G E m_LW_append 0 [(0, .ref x), (1, .int y0), (2, .int y1), (3, .int y2), (4, .int y3), (5, .int y4), (6, .ref out)] [] h 11 156 _ noX
  refine g_less hk hn ?_
  show G E m_LW_append 0 [(0, .ref x), (1, .int y0), (2, .int y1), (3, .int y2), (4, .int y3), (5, .int y4), (6, .ref out)] [] h kz nz _ noX
  rw [← Nat.zero_add kz, ← Nat.zero_add nz]
  refine g_aload (pc := 0) d_LW_append_0 6 rfl ?_
  refine g_iconst (pc := 2) (v := 0) d_LW_append_2 (by decide) ?_
  refine g_aload_n (pc := 3) d_LW_append_3 rfl 0 rfl ?_
  refine g_iload_n (pc := 4) d_LW_append_4 rfl 1 rfl ?_
  refine g_iload_n (pc := 5) d_LW_append_5 rfl 2 rfl ?_
  refine g_iload_n (pc := 6) d_LW_append_6 rfl 3 rfl ?_
  refine g_iload (pc := 7) d_LW_append_7 4 rfl ?_
  refine g_iload (pc := 9) d_LW_append_9 5 rfl ?_
  refine g_callVH (k := 0) (n := 0) (pc := 11) (ci := 0) (As := [.int _, .int _, .int _, .int _, .int _]) d_LW_append_11 mv_HS_append st_LW_append_7 rfl rfl (by decide) k_x rfl rfl (Nat.le_of_ble_eq_true rfl) hc (fun C h1 z => ?_) (fun _ _ z => z.elim)
  obtain ⟨rfl, q⟩ := z
  refine ⟨_, hc_LW_append_1, fun q => ?_⟩
  refine g_astore (pc := 19) (lv' := [(7, .ref q), (0, .ref x), (1, .int y0), (2, .int y1), (3, .int y2), (4, .int y3), (5, .int y4), (6, .ref out)]) d_LW_append_19 (by decide) rfl ?_
  refine g_iconst (pc := 21) (v := 1) d_LW_append_21 (by decide) ?_
  refine g_iret (pc := 22) d_LW_append_22 rfl ?_
  exact ⟨rfl, by assumption⟩
theorem ws_truncate {E : En} {h : Hp} {x out kz nz : Nat} {y0 : Int32} {Q : Int32 → Hp → Prop} (k_x : hK h x = 1) (hq : ∀ z h9, Q z h9 → hK h9 out = 24 ∧ hL h9 out = 1) (hc : CT E m_HS_truncate [.ref x, .int y0] h kz nz (fun v h1 => ∃ z, v = some (.int z) ∧ Q z h1) noX) (hk : kz ≤ 11) (hn : nz ≤ 156) : CT E m_LW_truncate [.ref x, .int y0, .ref out] h 11 156 (fun v h1 => v = some (.int 0) ∧ ∃ z h9, Q z h9 ∧ h1 = sJ h9 out 0 z.toInt64) noX := by
  refine ct_ofH (by decide) (by decide +kernel) (Nat.le_of_ble_eq_true rfl) ?_
  show G E m_LW_truncate 0 [(0, .ref x), (1, .int y0), (2, .ref out)] [] h 11 156 _ noX
  refine g_less hk hn ?_
  show G E m_LW_truncate 0 [(0, .ref x), (1, .int y0), (2, .ref out)] [] h kz nz _ noX
  rw [← Nat.zero_add kz, ← Nat.zero_add nz]
  refine g_aload_n (pc := 0) d_LW_truncate_0 rfl 2 rfl ?_
  refine g_iconst (pc := 1) (v := 0) d_LW_truncate_1 (by decide) ?_
  refine g_aload_n (pc := 2) d_LW_truncate_2 rfl 0 rfl ?_
  refine g_iload_n (pc := 3) d_LW_truncate_3 rfl 1 rfl ?_
  refine g_callVH (k := 0) (n := 0) (pc := 4) (ci := 0) (As := [.int _]) d_LW_truncate_4 mv_HS_truncate st_LW_truncate_15 rfl rfl (by decide) k_x rfl rfl (Nat.le_of_ble_eq_true rfl) hc (fun _ _ z => z.elim) (fun v h1 z => ?_)
  obtain ⟨z, rfl, q⟩ := z
  obtain ⟨k_out, l_out⟩ := hq z h1 q
  refine g_i2l (pc := 7) d_LW_truncate_7 ?_
  refine g_lastore (pc := 8) d_LW_truncate_8 k_out (by rw [l_out]; exact vp_in_nI (n := 0) (N := 1) (by decide) (by decide)) ?_
  refine g_goto (pc := 9) (tgt := 15) d_LW_truncate_9 (by decide) ?_
  refine g_iconst (pc := 15) (v := 0) d_LW_truncate_15 (by decide) ?_
  refine g_iret (pc := 16) d_LW_truncate_16 rfl ?_
  exact ⟨rfl, z, h1, q, rfl⟩
theorem we_truncate_1 {E : En} {h : Hp} {x out kz nz : Nat} {y0 : Int32} {Q : Hp → Prop} (k_x : hK h x = 1) (hc : CT E m_HS_truncate [.ref x, .int y0] h kz nz (fun _ _ => False) (fun C h1 => C = "java/lang/IllegalArgumentException" ∧ Q h1)) (hk : kz ≤ 11) (hn : nz ≤ 156) : CT E m_LW_truncate [.ref x, .int y0, .ref out] h 11 156 (fun v h1 => v = some (.int 1) ∧ Q h1) noX := by
  refine ct_ofH (by decide) (by decide +kernel) (Nat.le_of_ble_eq_true rfl) ?_
  show G E m_LW_truncate 0 [(0, .ref x), (1, .int y0), (2, .ref out)] [] h 11 156 _ noX
  refine g_less hk hn ?_
  show G E m_LW_truncate 0 [(0, .ref x), (1, .int y0), (2, .ref out)] [] h kz nz _ noX
  rw [← Nat.zero_add kz, ← Nat.zero_add nz]
  refine g_aload_n (pc := 0) d_LW_truncate_0 rfl 2 rfl ?_
  refine g_iconst (pc := 1) (v := 0) d_LW_truncate_1 (by decide) ?_
  refine g_aload_n (pc := 2) d_LW_truncate_2 rfl 0 rfl ?_
  refine g_iload_n (pc := 3) d_LW_truncate_3 rfl 1 rfl ?_
  refine g_callVH (k := 0) (n := 0) (pc := 4) (ci := 0) (As := [.int _]) d_LW_truncate_4 mv_HS_truncate st_LW_truncate_15 rfl rfl (by decide) k_x rfl rfl (Nat.le_of_ble_eq_true rfl) hc (fun C h1 z => ?_) (fun _ _ z => z.elim)
  obtain ⟨rfl, q⟩ := z
  refine ⟨_, hc_LW_truncate_1, fun q => ?_⟩
  refine g_astore_n (pc := 12) (lv' := [(3, .ref q), (0, .ref x), (1, .int y0), (2, .ref out)]) d_LW_truncate_12 rfl (by decide) rfl ?_
  refine g_iconst (pc := 13) (v := 1) d_LW_truncate_13 (by decide) ?_
  refine g_iret (pc := 14) d_LW_truncate_14 rfl ?_
  exact ⟨rfl, by assumption⟩
theorem ws_loadSetup {E : En} {h : Hp} {x out kz nz : Nat}  {Q : Int32 → Hp → Prop} (k_x : hK h x = 1) (hq : ∀ z h9, Q z h9 → hK h9 out = 24 ∧ hL h9 out = 1) (hc : CT E m_HS_loadSetup [.ref x] h kz nz (fun v h1 => ∃ z, v = some (.int z) ∧ Q z h1) noX) (hk : kz ≤ 11) (hn : nz ≤ 156) : CT E m_LW_loadSetup [.ref x, .ref out] h 11 156 (fun v h1 => v = some (.int 0) ∧ ∃ z h9, Q z h9 ∧ h1 = sJ h9 out 0 z.toInt64) noX := by
  refine ct_ofH (by decide) (by decide +kernel) (Nat.le_of_ble_eq_true rfl) ?_
  show G E m_LW_loadSetup 0 [(0, .ref x), (1, .ref out)] [] h 11 156 _ noX
  refine g_less hk hn ?_
  show G E m_LW_loadSetup 0 [(0, .ref x), (1, .ref out)] [] h kz nz _ noX
  rw [← Nat.zero_add kz, ← Nat.zero_add nz]
  refine g_aload_n (pc := 0) d_LW_loadSetup_0 rfl 1 rfl ?_
  refine g_iconst (pc := 1) (v := 0) d_LW_loadSetup_1 (by decide) ?_
  refine g_aload_n (pc := 2) d_LW_loadSetup_2 rfl 0 rfl ?_
  refine g_callVH (k := 0) (n := 0) (pc := 3) (ci := 0) (As := []) d_LW_loadSetup_3 mv_HS_loadSetup st_LW_loadSetup_21 rfl rfl (by decide) k_x rfl rfl (Nat.le_of_ble_eq_true rfl) hc (fun _ _ z => z.elim) (fun v h1 z => ?_)
  obtain ⟨z, rfl, q⟩ := z
  obtain ⟨k_out, l_out⟩ := hq z h1 q
  refine g_i2l (pc := 6) d_LW_loadSetup_6 ?_
  refine g_lastore (pc := 7) d_LW_loadSetup_7 k_out (by rw [l_out]; exact vp_in_nI (n := 0) (N := 1) (by decide) (by decide)) ?_
  refine g_goto (pc := 8) (tgt := 14) d_LW_loadSetup_8 (by decide) ?_
  refine g_iconst (pc := 14) (v := 0) d_LW_loadSetup_14 (by decide) ?_
  refine g_iret (pc := 15) d_LW_loadSetup_15 rfl ?_
  exact ⟨rfl, z, h1, q, rfl⟩
theorem we_loadSetup_1 {E : En} {h : Hp} {x out kz nz : Nat}  {Q : Hp → Prop} (k_x : hK h x = 1) (hc : CT E m_HS_loadSetup [.ref x] h kz nz (fun _ _ => False) (fun C h1 => C = "java/lang/IllegalArgumentException" ∧ Q h1)) (hk : kz ≤ 11) (hn : nz ≤ 156) : CT E m_LW_loadSetup [.ref x, .ref out] h 11 156 (fun v h1 => v = some (.int 1) ∧ Q h1) noX := by
  refine ct_ofH (by decide) (by decide +kernel) (Nat.le_of_ble_eq_true rfl) ?_
  show G E m_LW_loadSetup 0 [(0, .ref x), (1, .ref out)] [] h 11 156 _ noX
  refine g_less hk hn ?_
  show G E m_LW_loadSetup 0 [(0, .ref x), (1, .ref out)] [] h kz nz _ noX
  rw [← Nat.zero_add kz, ← Nat.zero_add nz]
  refine g_aload_n (pc := 0) d_LW_loadSetup_0 rfl 1 rfl ?_
  refine g_iconst (pc := 1) (v := 0) d_LW_loadSetup_1 (by decide) ?_
  refine g_aload_n (pc := 2) d_LW_loadSetup_2 rfl 0 rfl ?_
  refine g_callVH (k := 0) (n := 0) (pc := 3) (ci := 0) (As := []) d_LW_loadSetup_3 mv_HS_loadSetup st_LW_loadSetup_21 rfl rfl (by decide) k_x rfl rfl (Nat.le_of_ble_eq_true rfl) hc (fun C h1 z => ?_) (fun _ _ z => z.elim)
  obtain ⟨rfl, q⟩ := z
  refine ⟨_, hc_LW_loadSetup_1, fun q => ?_⟩
  refine g_astore_n (pc := 11) (lv' := [(2, .ref q), (0, .ref x), (1, .ref out)]) d_LW_loadSetup_11 rfl (by decide) rfl ?_
  refine g_iconst (pc := 12) (v := 1) d_LW_loadSetup_12 (by decide) ?_
  refine g_iret (pc := 13) d_LW_loadSetup_13 rfl ?_
  exact ⟨rfl, by assumption⟩
theorem ws_runScript {E : En} {h : Hp} {x out kz nz : Nat}  {Q : Int32 → Hp → Prop} (k_x : hK h x = 1) (hq : ∀ z h9, Q z h9 → hK h9 out = 24 ∧ hL h9 out = 1) (hc : CT E m_HS_runScript [.ref x] h kz nz (fun v h1 => ∃ z, v = some (.int z) ∧ Q z h1) noX) (hk : kz ≤ 11) (hn : nz ≤ 156) : CT E m_LW_runScript [.ref x, .ref out] h 11 156 (fun v h1 => v = some (.int 0) ∧ ∃ z h9, Q z h9 ∧ h1 = sJ h9 out 0 z.toInt64) noX := by
  refine ct_ofH (by decide) (by decide +kernel) (Nat.le_of_ble_eq_true rfl) ?_
  show G E m_LW_runScript 0 [(0, .ref x), (1, .ref out)] [] h 11 156 _ noX
  refine g_less hk hn ?_
  show G E m_LW_runScript 0 [(0, .ref x), (1, .ref out)] [] h kz nz _ noX
  rw [← Nat.zero_add kz, ← Nat.zero_add nz]
  refine g_aload_n (pc := 0) d_LW_runScript_0 rfl 1 rfl ?_
  refine g_iconst (pc := 1) (v := 0) d_LW_runScript_1 (by decide) ?_
  refine g_aload_n (pc := 2) d_LW_runScript_2 rfl 0 rfl ?_
  refine g_callVH (k := 0) (n := 0) (pc := 3) (ci := 0) (As := []) d_LW_runScript_3 mv_HS_runScript st_LW_runScript_25 rfl rfl (by decide) k_x rfl rfl (Nat.le_of_ble_eq_true rfl) hc (fun _ _ z => z.elim) (fun v h1 z => ?_)
  obtain ⟨z, rfl, q⟩ := z
  obtain ⟨k_out, l_out⟩ := hq z h1 q
  refine g_i2l (pc := 6) d_LW_runScript_6 ?_
  refine g_lastore (pc := 7) d_LW_runScript_7 k_out (by rw [l_out]; exact vp_in_nI (n := 0) (N := 1) (by decide) (by decide)) ?_
  refine g_goto (pc := 8) (tgt := 14) d_LW_runScript_8 (by decide) ?_
  refine g_iconst (pc := 14) (v := 0) d_LW_runScript_14 (by decide) ?_
  refine g_iret (pc := 15) d_LW_runScript_15 rfl ?_
  exact ⟨rfl, z, h1, q, rfl⟩
theorem we_runScript_1 {E : En} {h : Hp} {x out kz nz : Nat}  {Q : Hp → Prop} (k_x : hK h x = 1) (hc : CT E m_HS_runScript [.ref x] h kz nz (fun _ _ => False) (fun C h1 => C = "java/lang/IllegalArgumentException" ∧ Q h1)) (hk : kz ≤ 11) (hn : nz ≤ 156) : CT E m_LW_runScript [.ref x, .ref out] h 11 156 (fun v h1 => v = some (.int 1) ∧ Q h1) noX := by
  refine ct_ofH (by decide) (by decide +kernel) (Nat.le_of_ble_eq_true rfl) ?_
  show G E m_LW_runScript 0 [(0, .ref x), (1, .ref out)] [] h 11 156 _ noX
  refine g_less hk hn ?_
  show G E m_LW_runScript 0 [(0, .ref x), (1, .ref out)] [] h kz nz _ noX
  rw [← Nat.zero_add kz, ← Nat.zero_add nz]
  refine g_aload_n (pc := 0) d_LW_runScript_0 rfl 1 rfl ?_
  refine g_iconst (pc := 1) (v := 0) d_LW_runScript_1 (by decide) ?_
  refine g_aload_n (pc := 2) d_LW_runScript_2 rfl 0 rfl ?_
  refine g_callVH (k := 0) (n := 0) (pc := 3) (ci := 0) (As := []) d_LW_runScript_3 mv_HS_runScript st_LW_runScript_25 rfl rfl (by decide) k_x rfl rfl (Nat.le_of_ble_eq_true rfl) hc (fun C h1 z => ?_) (fun _ _ z => z.elim)
  obtain ⟨rfl, q⟩ := z
  refine ⟨_, hc_LW_runScript_1, fun q => ?_⟩
  refine g_astore_n (pc := 11) (lv' := [(2, .ref q), (0, .ref x), (1, .ref out)]) d_LW_runScript_11 rfl (by decide) rfl ?_
  refine g_iconst (pc := 12) (v := 1) d_LW_runScript_12 (by decide) ?_
  refine g_iret (pc := 13) d_LW_runScript_13 rfl ?_
  exact ⟨rfl, by assumption⟩
theorem ws_passDays {E : En} {h : Hp} {x out kz nz : Nat} {y0 : Int32} {Q : Int32 → Hp → Prop} (k_x : hK h x = 1) (hq : ∀ z h9, Q z h9 → hK h9 out = 24 ∧ hL h9 out = 1) (hc : CT E m_HS_passDays [.ref x, .int y0] h kz nz (fun v h1 => ∃ z, v = some (.int z) ∧ Q z h1) noX) (hk : kz ≤ 11) (hn : nz ≤ 156) : CT E m_LW_passDays [.ref x, .int y0, .ref out] h 11 156 (fun v h1 => v = some (.int 0) ∧ ∃ z h9, Q z h9 ∧ h1 = sJ h9 out 0 z.toInt64) noX := by
  refine ct_ofH (by decide) (by decide +kernel) (Nat.le_of_ble_eq_true rfl) ?_
  show G E m_LW_passDays 0 [(0, .ref x), (1, .int y0), (2, .ref out)] [] h 11 156 _ noX
  refine g_less hk hn ?_
  show G E m_LW_passDays 0 [(0, .ref x), (1, .int y0), (2, .ref out)] [] h kz nz _ noX
  rw [← Nat.zero_add kz, ← Nat.zero_add nz]
  refine g_aload_n (pc := 0) d_LW_passDays_0 rfl 2 rfl ?_
  refine g_iconst (pc := 1) (v := 0) d_LW_passDays_1 (by decide) ?_
  refine g_aload_n (pc := 2) d_LW_passDays_2 rfl 0 rfl ?_
  refine g_iload_n (pc := 3) d_LW_passDays_3 rfl 1 rfl ?_
  refine g_callVH (k := 0) (n := 0) (pc := 4) (ci := 0) (As := [.int _]) d_LW_passDays_4 mv_HS_passDays st_LW_passDays_28 rfl rfl (by decide) k_x rfl rfl (Nat.le_of_ble_eq_true rfl) hc (fun _ _ z => z.elim) (fun v h1 z => ?_)
  obtain ⟨z, rfl, q⟩ := z
  obtain ⟨k_out, l_out⟩ := hq z h1 q
  refine g_i2l (pc := 7) d_LW_passDays_7 ?_
  refine g_lastore (pc := 8) d_LW_passDays_8 k_out (by rw [l_out]; exact vp_in_nI (n := 0) (N := 1) (by decide) (by decide)) ?_
  refine g_goto (pc := 9) (tgt := 15) d_LW_passDays_9 (by decide) ?_
  refine g_iconst (pc := 15) (v := 0) d_LW_passDays_15 (by decide) ?_
  refine g_iret (pc := 16) d_LW_passDays_16 rfl ?_
  exact ⟨rfl, z, h1, q, rfl⟩
theorem we_passDays_1 {E : En} {h : Hp} {x out kz nz : Nat} {y0 : Int32} {Q : Hp → Prop} (k_x : hK h x = 1) (hc : CT E m_HS_passDays [.ref x, .int y0] h kz nz (fun _ _ => False) (fun C h1 => C = "java/lang/IllegalArgumentException" ∧ Q h1)) (hk : kz ≤ 11) (hn : nz ≤ 156) : CT E m_LW_passDays [.ref x, .int y0, .ref out] h 11 156 (fun v h1 => v = some (.int 1) ∧ Q h1) noX := by
  refine ct_ofH (by decide) (by decide +kernel) (Nat.le_of_ble_eq_true rfl) ?_
  show G E m_LW_passDays 0 [(0, .ref x), (1, .int y0), (2, .ref out)] [] h 11 156 _ noX
  refine g_less hk hn ?_
  show G E m_LW_passDays 0 [(0, .ref x), (1, .int y0), (2, .ref out)] [] h kz nz _ noX
  rw [← Nat.zero_add kz, ← Nat.zero_add nz]
  refine g_aload_n (pc := 0) d_LW_passDays_0 rfl 2 rfl ?_
  refine g_iconst (pc := 1) (v := 0) d_LW_passDays_1 (by decide) ?_
  refine g_aload_n (pc := 2) d_LW_passDays_2 rfl 0 rfl ?_
  refine g_iload_n (pc := 3) d_LW_passDays_3 rfl 1 rfl ?_
  refine g_callVH (k := 0) (n := 0) (pc := 4) (ci := 0) (As := [.int _]) d_LW_passDays_4 mv_HS_passDays st_LW_passDays_28 rfl rfl (by decide) k_x rfl rfl (Nat.le_of_ble_eq_true rfl) hc (fun C h1 z => ?_) (fun _ _ z => z.elim)
  obtain ⟨rfl, q⟩ := z
  refine ⟨_, hc_LW_passDays_1, fun q => ?_⟩
  refine g_astore_n (pc := 12) (lv' := [(3, .ref q), (0, .ref x), (1, .int y0), (2, .ref out)]) d_LW_passDays_12 rfl (by decide) rfl ?_
  refine g_iconst (pc := 13) (v := 1) d_LW_passDays_13 (by decide) ?_
  refine g_iret (pc := 14) d_LW_passDays_14 rfl ?_
  exact ⟨rfl, by assumption⟩
theorem ws_visit {E : En} {h : Hp} {x out kz nz : Nat} {y0 : Int32} {Q : Int32 → Hp → Prop} (k_x : hK h x = 1) (hq : ∀ z h9, Q z h9 → hK h9 out = 24 ∧ hL h9 out = 1) (hc : CT E m_HS_visit [.ref x, .int y0] h kz nz (fun v h1 => ∃ z, v = some (.int z) ∧ Q z h1) noX) (hk : kz ≤ 11) (hn : nz ≤ 156) : CT E m_LW_visit [.ref x, .int y0, .ref out] h 11 156 (fun v h1 => v = some (.int 0) ∧ ∃ z h9, Q z h9 ∧ h1 = sJ h9 out 0 z.toInt64) noX := by
  refine ct_ofH (by decide) (by decide +kernel) (Nat.le_of_ble_eq_true rfl) ?_
  show G E m_LW_visit 0 [(0, .ref x), (1, .int y0), (2, .ref out)] [] h 11 156 _ noX
  refine g_less hk hn ?_
  show G E m_LW_visit 0 [(0, .ref x), (1, .int y0), (2, .ref out)] [] h kz nz _ noX
  rw [← Nat.zero_add kz, ← Nat.zero_add nz]
  refine g_aload_n (pc := 0) d_LW_visit_0 rfl 2 rfl ?_
  refine g_iconst (pc := 1) (v := 0) d_LW_visit_1 (by decide) ?_
  refine g_aload_n (pc := 2) d_LW_visit_2 rfl 0 rfl ?_
  refine g_iload_n (pc := 3) d_LW_visit_3 rfl 1 rfl ?_
  refine g_callVH (k := 0) (n := 0) (pc := 4) (ci := 0) (As := [.int _]) d_LW_visit_4 mv_HS_visit st_LW_visit_31 rfl rfl (by decide) k_x rfl rfl (Nat.le_of_ble_eq_true rfl) hc (fun _ _ z => z.elim) (fun v h1 z => ?_)
  obtain ⟨z, rfl, q⟩ := z
  obtain ⟨k_out, l_out⟩ := hq z h1 q
  refine g_i2l (pc := 7) d_LW_visit_7 ?_
  refine g_lastore (pc := 8) d_LW_visit_8 k_out (by rw [l_out]; exact vp_in_nI (n := 0) (N := 1) (by decide) (by decide)) ?_
  refine g_goto (pc := 9) (tgt := 18) d_LW_visit_9 (by decide) ?_
  refine g_iconst (pc := 18) (v := 0) d_LW_visit_18 (by decide) ?_
  refine g_iret (pc := 19) d_LW_visit_19 rfl ?_
  exact ⟨rfl, z, h1, q, rfl⟩
theorem we_visit_1 {E : En} {h : Hp} {x out kz nz : Nat} {y0 : Int32} {Q : Hp → Prop} (k_x : hK h x = 1) (hc : CT E m_HS_visit [.ref x, .int y0] h kz nz (fun _ _ => False) (fun C h1 => C = "java/lang/IndexOutOfBoundsException" ∧ Q h1)) (hk : kz ≤ 11) (hn : nz ≤ 156) : CT E m_LW_visit [.ref x, .int y0, .ref out] h 11 156 (fun v h1 => v = some (.int 1) ∧ Q h1) noX := by
  refine ct_ofH (by decide) (by decide +kernel) (Nat.le_of_ble_eq_true rfl) ?_
  show G E m_LW_visit 0 [(0, .ref x), (1, .int y0), (2, .ref out)] [] h 11 156 _ noX
  refine g_less hk hn ?_
  show G E m_LW_visit 0 [(0, .ref x), (1, .int y0), (2, .ref out)] [] h kz nz _ noX
  rw [← Nat.zero_add kz, ← Nat.zero_add nz]
  refine g_aload_n (pc := 0) d_LW_visit_0 rfl 2 rfl ?_
  refine g_iconst (pc := 1) (v := 0) d_LW_visit_1 (by decide) ?_
  refine g_aload_n (pc := 2) d_LW_visit_2 rfl 0 rfl ?_
  refine g_iload_n (pc := 3) d_LW_visit_3 rfl 1 rfl ?_
  refine g_callVH (k := 0) (n := 0) (pc := 4) (ci := 0) (As := [.int _]) d_LW_visit_4 mv_HS_visit st_LW_visit_31 rfl rfl (by decide) k_x rfl rfl (Nat.le_of_ble_eq_true rfl) hc (fun C h1 z => ?_) (fun _ _ z => z.elim)
  obtain ⟨rfl, q⟩ := z
  refine ⟨_, hc_LW_visit_1, fun q => ?_⟩
  refine g_astore_n (pc := 12) (lv' := [(3, .ref q), (0, .ref x), (1, .int y0), (2, .ref out)]) d_LW_visit_12 rfl (by decide) rfl ?_
  refine g_iconst (pc := 13) (v := 1) d_LW_visit_13 (by decide) ?_
  refine g_iret (pc := 14) d_LW_visit_14 rfl ?_
  exact ⟨rfl, by assumption⟩
theorem we_visit_2 {E : En} {h : Hp} {x out kz nz : Nat} {y0 : Int32} {Q : Hp → Prop} (k_x : hK h x = 1) (hc : CT E m_HS_visit [.ref x, .int y0] h kz nz (fun _ _ => False) (fun C h1 => C = "java/lang/IllegalStateException" ∧ Q h1)) (hk : kz ≤ 11) (hn : nz ≤ 156) : CT E m_LW_visit [.ref x, .int y0, .ref out] h 11 156 (fun v h1 => v = some (.int 2) ∧ Q h1) noX := by
  refine ct_ofH (by decide) (by decide +kernel) (Nat.le_of_ble_eq_true rfl) ?_
  show G E m_LW_visit 0 [(0, .ref x), (1, .int y0), (2, .ref out)] [] h 11 156 _ noX
  refine g_less hk hn ?_
  show G E m_LW_visit 0 [(0, .ref x), (1, .int y0), (2, .ref out)] [] h kz nz _ noX
  rw [← Nat.zero_add kz, ← Nat.zero_add nz]
  refine g_aload_n (pc := 0) d_LW_visit_0 rfl 2 rfl ?_
  refine g_iconst (pc := 1) (v := 0) d_LW_visit_1 (by decide) ?_
  refine g_aload_n (pc := 2) d_LW_visit_2 rfl 0 rfl ?_
  refine g_iload_n (pc := 3) d_LW_visit_3 rfl 1 rfl ?_
  refine g_callVH (k := 0) (n := 0) (pc := 4) (ci := 0) (As := [.int _]) d_LW_visit_4 mv_HS_visit st_LW_visit_31 rfl rfl (by decide) k_x rfl rfl (Nat.le_of_ble_eq_true rfl) hc (fun C h1 z => ?_) (fun _ _ z => z.elim)
  obtain ⟨rfl, q⟩ := z
  refine ⟨_, hc_LW_visit_2, fun q => ?_⟩
  refine g_astore_n (pc := 15) (lv' := [(3, .ref q), (0, .ref x), (1, .int y0), (2, .ref out)]) d_LW_visit_15 rfl (by decide) rfl ?_
  refine g_iconst (pc := 16) (v := 2) d_LW_visit_16 (by decide) ?_
  refine g_iret (pc := 17) d_LW_visit_17 rfl ?_
  exact ⟨rfl, by assumption⟩
theorem ws_repair {E : En} {h : Hp} {x out kz nz : Nat} {y0 : Int32} {Q : Int32 → Hp → Prop} (k_x : hK h x = 1) (hq : ∀ z h9, Q z h9 → hK h9 out = 24 ∧ hL h9 out = 1) (hc : CT E m_HS_repair [.ref x, .int y0] h kz nz (fun v h1 => ∃ z, v = some (.int z) ∧ Q z h1) noX) (hk : kz ≤ 11) (hn : nz ≤ 156) : CT E m_LW_repair [.ref x, .int y0, .ref out] h 11 156 (fun v h1 => v = some (.int 0) ∧ ∃ z h9, Q z h9 ∧ h1 = sJ h9 out 0 z.toInt64) noX := by
  refine ct_ofH (by decide) (by decide +kernel) (Nat.le_of_ble_eq_true rfl) ?_
  show G E m_LW_repair 0 [(0, .ref x), (1, .int y0), (2, .ref out)] [] h 11 156 _ noX
  refine g_less hk hn ?_
  show G E m_LW_repair 0 [(0, .ref x), (1, .int y0), (2, .ref out)] [] h kz nz _ noX
  rw [← Nat.zero_add kz, ← Nat.zero_add nz]
  refine g_aload_n (pc := 0) d_LW_repair_0 rfl 2 rfl ?_
  refine g_iconst (pc := 1) (v := 0) d_LW_repair_1 (by decide) ?_
  refine g_aload_n (pc := 2) d_LW_repair_2 rfl 0 rfl ?_
  refine g_iload_n (pc := 3) d_LW_repair_3 rfl 1 rfl ?_
  refine g_callVH (k := 0) (n := 0) (pc := 4) (ci := 0) (As := [.int _]) d_LW_repair_4 mv_HS_repair st_LW_repair_36 rfl rfl (by decide) k_x rfl rfl (Nat.le_of_ble_eq_true rfl) hc (fun _ _ z => z.elim) (fun v h1 z => ?_)
  obtain ⟨z, rfl, q⟩ := z
  obtain ⟨k_out, l_out⟩ := hq z h1 q
  refine g_i2l (pc := 7) d_LW_repair_7 ?_
  refine g_lastore (pc := 8) d_LW_repair_8 k_out (by rw [l_out]; exact vp_in_nI (n := 0) (N := 1) (by decide) (by decide)) ?_
  refine g_goto (pc := 9) (tgt := 18) d_LW_repair_9 (by decide) ?_
  refine g_iconst (pc := 18) (v := 0) d_LW_repair_18 (by decide) ?_
  refine g_iret (pc := 19) d_LW_repair_19 rfl ?_
  exact ⟨rfl, z, h1, q, rfl⟩
theorem we_repair_1 {E : En} {h : Hp} {x out kz nz : Nat} {y0 : Int32} {Q : Hp → Prop} (k_x : hK h x = 1) (hc : CT E m_HS_repair [.ref x, .int y0] h kz nz (fun _ _ => False) (fun C h1 => C = "java/lang/IndexOutOfBoundsException" ∧ Q h1)) (hk : kz ≤ 11) (hn : nz ≤ 156) : CT E m_LW_repair [.ref x, .int y0, .ref out] h 11 156 (fun v h1 => v = some (.int 1) ∧ Q h1) noX := by
  refine ct_ofH (by decide) (by decide +kernel) (Nat.le_of_ble_eq_true rfl) ?_
  show G E m_LW_repair 0 [(0, .ref x), (1, .int y0), (2, .ref out)] [] h 11 156 _ noX
  refine g_less hk hn ?_
  show G E m_LW_repair 0 [(0, .ref x), (1, .int y0), (2, .ref out)] [] h kz nz _ noX
  rw [← Nat.zero_add kz, ← Nat.zero_add nz]
  refine g_aload_n (pc := 0) d_LW_repair_0 rfl 2 rfl ?_
  refine g_iconst (pc := 1) (v := 0) d_LW_repair_1 (by decide) ?_
  refine g_aload_n (pc := 2) d_LW_repair_2 rfl 0 rfl ?_
  refine g_iload_n (pc := 3) d_LW_repair_3 rfl 1 rfl ?_
  refine g_callVH (k := 0) (n := 0) (pc := 4) (ci := 0) (As := [.int _]) d_LW_repair_4 mv_HS_repair st_LW_repair_36 rfl rfl (by decide) k_x rfl rfl (Nat.le_of_ble_eq_true rfl) hc (fun C h1 z => ?_) (fun _ _ z => z.elim)
  obtain ⟨rfl, q⟩ := z
  refine ⟨_, hc_LW_repair_1, fun q => ?_⟩
  refine g_astore_n (pc := 12) (lv' := [(3, .ref q), (0, .ref x), (1, .int y0), (2, .ref out)]) d_LW_repair_12 rfl (by decide) rfl ?_
  refine g_iconst (pc := 13) (v := 1) d_LW_repair_13 (by decide) ?_
  refine g_iret (pc := 14) d_LW_repair_14 rfl ?_
  exact ⟨rfl, by assumption⟩
theorem we_repair_2 {E : En} {h : Hp} {x out kz nz : Nat} {y0 : Int32} {Q : Hp → Prop} (k_x : hK h x = 1) (hc : CT E m_HS_repair [.ref x, .int y0] h kz nz (fun _ _ => False) (fun C h1 => C = "java/lang/IllegalStateException" ∧ Q h1)) (hk : kz ≤ 11) (hn : nz ≤ 156) : CT E m_LW_repair [.ref x, .int y0, .ref out] h 11 156 (fun v h1 => v = some (.int 2) ∧ Q h1) noX := by
  refine ct_ofH (by decide) (by decide +kernel) (Nat.le_of_ble_eq_true rfl) ?_
  show G E m_LW_repair 0 [(0, .ref x), (1, .int y0), (2, .ref out)] [] h 11 156 _ noX
  refine g_less hk hn ?_
  show G E m_LW_repair 0 [(0, .ref x), (1, .int y0), (2, .ref out)] [] h kz nz _ noX
  rw [← Nat.zero_add kz, ← Nat.zero_add nz]
  refine g_aload_n (pc := 0) d_LW_repair_0 rfl 2 rfl ?_
  refine g_iconst (pc := 1) (v := 0) d_LW_repair_1 (by decide) ?_
  refine g_aload_n (pc := 2) d_LW_repair_2 rfl 0 rfl ?_
  refine g_iload_n (pc := 3) d_LW_repair_3 rfl 1 rfl ?_
  refine g_callVH (k := 0) (n := 0) (pc := 4) (ci := 0) (As := [.int _]) d_LW_repair_4 mv_HS_repair st_LW_repair_36 rfl rfl (by decide) k_x rfl rfl (Nat.le_of_ble_eq_true rfl) hc (fun C h1 z => ?_) (fun _ _ z => z.elim)
  obtain ⟨rfl, q⟩ := z
  refine ⟨_, hc_LW_repair_2, fun q => ?_⟩
  refine g_astore_n (pc := 15) (lv' := [(3, .ref q), (0, .ref x), (1, .int y0), (2, .ref out)]) d_LW_repair_15 rfl (by decide) rfl ?_
  refine g_iconst (pc := 16) (v := 2) d_LW_repair_16 (by decide) ?_
  refine g_iret (pc := 17) d_LW_repair_17 rfl ?_
  exact ⟨rfl, by assumption⟩
theorem ws_setThumb {E : En} {h : Hp} {x out kz nz : Nat} {y0 y1 : Int32} {Q : Int32 → Hp → Prop} (k_x : hK h x = 1) (hq : ∀ z h9, Q z h9 → hK h9 out = 24 ∧ hL h9 out = 1) (hc : CT E m_HS_setThumb [.ref x, .int y0, .int y1] h kz nz (fun v h1 => ∃ z, v = some (.int z) ∧ Q z h1) noX) (hk : kz ≤ 11) (hn : nz ≤ 156) : CT E m_LW_setThumb [.ref x, .int y0, .int y1, .ref out] h 11 156 (fun v h1 => v = some (.int 0) ∧ ∃ z h9, Q z h9 ∧ h1 = sJ h9 out 0 z.toInt64) noX := by
  refine ct_ofH (by decide) (by decide +kernel) (Nat.le_of_ble_eq_true rfl) ?_
  show G E m_LW_setThumb 0 [(0, .ref x), (1, .int y0), (2, .int y1), (3, .ref out)] [] h 11 156 _ noX
  refine g_less hk hn ?_
  show G E m_LW_setThumb 0 [(0, .ref x), (1, .int y0), (2, .int y1), (3, .ref out)] [] h kz nz _ noX
  rw [← Nat.zero_add kz, ← Nat.zero_add nz]
  refine g_aload_n (pc := 0) d_LW_setThumb_0 rfl 3 rfl ?_
  refine g_iconst (pc := 1) (v := 0) d_LW_setThumb_1 (by decide) ?_
  refine g_aload_n (pc := 2) d_LW_setThumb_2 rfl 0 rfl ?_
  refine g_iload_n (pc := 3) d_LW_setThumb_3 rfl 1 rfl ?_
  refine g_iload_n (pc := 4) d_LW_setThumb_4 rfl 2 rfl ?_
  refine g_callVH (k := 0) (n := 0) (pc := 5) (ci := 0) (As := [.int _, .int _]) d_LW_setThumb_5 mv_HS_setThumb st_LW_setThumb_39 rfl rfl (by decide) k_x rfl rfl (Nat.le_of_ble_eq_true rfl) hc (fun _ _ z => z.elim) (fun v h1 z => ?_)
  obtain ⟨z, rfl, q⟩ := z
  obtain ⟨k_out, l_out⟩ := hq z h1 q
  refine g_i2l (pc := 8) d_LW_setThumb_8 ?_
  refine g_lastore (pc := 9) d_LW_setThumb_9 k_out (by rw [l_out]; exact vp_in_nI (n := 0) (N := 1) (by decide) (by decide)) ?_
  refine g_goto (pc := 10) (tgt := 21) d_LW_setThumb_10 (by decide) ?_
  refine g_iconst (pc := 21) (v := 0) d_LW_setThumb_21 (by decide) ?_
  refine g_iret (pc := 22) d_LW_setThumb_22 rfl ?_
  exact ⟨rfl, z, h1, q, rfl⟩
theorem we_setThumb_1 {E : En} {h : Hp} {x out kz nz : Nat} {y0 y1 : Int32} {Q : Hp → Prop} (k_x : hK h x = 1) (hc : CT E m_HS_setThumb [.ref x, .int y0, .int y1] h kz nz (fun _ _ => False) (fun C h1 => C = "java/lang/IndexOutOfBoundsException" ∧ Q h1)) (hk : kz ≤ 11) (hn : nz ≤ 156) : CT E m_LW_setThumb [.ref x, .int y0, .int y1, .ref out] h 11 156 (fun v h1 => v = some (.int 1) ∧ Q h1) noX := by
  refine ct_ofH (by decide) (by decide +kernel) (Nat.le_of_ble_eq_true rfl) ?_
  show G E m_LW_setThumb 0 [(0, .ref x), (1, .int y0), (2, .int y1), (3, .ref out)] [] h 11 156 _ noX
  refine g_less hk hn ?_
  show G E m_LW_setThumb 0 [(0, .ref x), (1, .int y0), (2, .int y1), (3, .ref out)] [] h kz nz _ noX
  rw [← Nat.zero_add kz, ← Nat.zero_add nz]
  refine g_aload_n (pc := 0) d_LW_setThumb_0 rfl 3 rfl ?_
  refine g_iconst (pc := 1) (v := 0) d_LW_setThumb_1 (by decide) ?_
  refine g_aload_n (pc := 2) d_LW_setThumb_2 rfl 0 rfl ?_
  refine g_iload_n (pc := 3) d_LW_setThumb_3 rfl 1 rfl ?_
  refine g_iload_n (pc := 4) d_LW_setThumb_4 rfl 2 rfl ?_
  refine g_callVH (k := 0) (n := 0) (pc := 5) (ci := 0) (As := [.int _, .int _]) d_LW_setThumb_5 mv_HS_setThumb st_LW_setThumb_39 rfl rfl (by decide) k_x rfl rfl (Nat.le_of_ble_eq_true rfl) hc (fun C h1 z => ?_) (fun _ _ z => z.elim)
  obtain ⟨rfl, q⟩ := z
  refine ⟨_, hc_LW_setThumb_1, fun q => ?_⟩
  refine g_astore (pc := 13) (lv' := [(4, .ref q), (0, .ref x), (1, .int y0), (2, .int y1), (3, .ref out)]) d_LW_setThumb_13 (by decide) rfl ?_
  refine g_iconst (pc := 15) (v := 1) d_LW_setThumb_15 (by decide) ?_
  refine g_iret (pc := 16) d_LW_setThumb_16 rfl ?_
  exact ⟨rfl, by assumption⟩
theorem we_setThumb_2 {E : En} {h : Hp} {x out kz nz : Nat} {y0 y1 : Int32} {Q : Hp → Prop} (k_x : hK h x = 1) (hc : CT E m_HS_setThumb [.ref x, .int y0, .int y1] h kz nz (fun _ _ => False) (fun C h1 => C = "java/lang/IllegalArgumentException" ∧ Q h1)) (hk : kz ≤ 11) (hn : nz ≤ 156) : CT E m_LW_setThumb [.ref x, .int y0, .int y1, .ref out] h 11 156 (fun v h1 => v = some (.int 2) ∧ Q h1) noX := by
  refine ct_ofH (by decide) (by decide +kernel) (Nat.le_of_ble_eq_true rfl) ?_
  show G E m_LW_setThumb 0 [(0, .ref x), (1, .int y0), (2, .int y1), (3, .ref out)] [] h 11 156 _ noX
  refine g_less hk hn ?_
  show G E m_LW_setThumb 0 [(0, .ref x), (1, .int y0), (2, .int y1), (3, .ref out)] [] h kz nz _ noX
  rw [← Nat.zero_add kz, ← Nat.zero_add nz]
  refine g_aload_n (pc := 0) d_LW_setThumb_0 rfl 3 rfl ?_
  refine g_iconst (pc := 1) (v := 0) d_LW_setThumb_1 (by decide) ?_
  refine g_aload_n (pc := 2) d_LW_setThumb_2 rfl 0 rfl ?_
  refine g_iload_n (pc := 3) d_LW_setThumb_3 rfl 1 rfl ?_
  refine g_iload_n (pc := 4) d_LW_setThumb_4 rfl 2 rfl ?_
  refine g_callVH (k := 0) (n := 0) (pc := 5) (ci := 0) (As := [.int _, .int _]) d_LW_setThumb_5 mv_HS_setThumb st_LW_setThumb_39 rfl rfl (by decide) k_x rfl rfl (Nat.le_of_ble_eq_true rfl) hc (fun C h1 z => ?_) (fun _ _ z => z.elim)
  obtain ⟨rfl, q⟩ := z
  refine ⟨_, hc_LW_setThumb_2, fun q => ?_⟩
  refine g_astore (pc := 17) (lv' := [(4, .ref q), (0, .ref x), (1, .int y0), (2, .int y1), (3, .ref out)]) d_LW_setThumb_17 (by decide) rfl ?_
  refine g_iconst (pc := 19) (v := 2) d_LW_setThumb_19 (by decide) ?_
  refine g_iret (pc := 20) d_LW_setThumb_20 rfl ?_
  exact ⟨rfl, by assumption⟩
theorem ws_complain {E : En} {h : Hp} {x out kz nz : Nat} {y0 : Int32} {Q : Int32 → Hp → Prop} (k_x : hK h x = 1) (hq : ∀ z h9, Q z h9 → hK h9 out = 24 ∧ hL h9 out = 1) (hc : CT E m_HS_complain [.ref x, .int y0] h kz nz (fun v h1 => ∃ z, v = some (.int z) ∧ Q z h1) noX) (hk : kz ≤ 11) (hn : nz ≤ 156) : CT E m_LW_complain [.ref x, .int y0, .ref out] h 11 156 (fun v h1 => v = some (.int 0) ∧ ∃ z h9, Q z h9 ∧ h1 = sJ h9 out 0 z.toInt64) noX := by
  refine ct_ofH (by decide) (by decide +kernel) (Nat.le_of_ble_eq_true rfl) ?_
  show G E m_LW_complain 0 [(0, .ref x), (1, .int y0), (2, .ref out)] [] h 11 156 _ noX
  refine g_less hk hn ?_
  show G E m_LW_complain 0 [(0, .ref x), (1, .int y0), (2, .ref out)] [] h kz nz _ noX
  rw [← Nat.zero_add kz, ← Nat.zero_add nz]
  refine g_aload_n (pc := 0) d_LW_complain_0 rfl 2 rfl ?_
  refine g_iconst (pc := 1) (v := 0) d_LW_complain_1 (by decide) ?_
  refine g_aload_n (pc := 2) d_LW_complain_2 rfl 0 rfl ?_
  refine g_iload_n (pc := 3) d_LW_complain_3 rfl 1 rfl ?_
  refine g_callVH (k := 0) (n := 0) (pc := 4) (ci := 0) (As := [.int _]) d_LW_complain_4 mv_HS_complain st_LW_complain_43 rfl rfl (by decide) k_x rfl rfl (Nat.le_of_ble_eq_true rfl) hc (fun _ _ z => z.elim) (fun v h1 z => ?_)
  obtain ⟨z, rfl, q⟩ := z
  obtain ⟨k_out, l_out⟩ := hq z h1 q
  refine g_i2l (pc := 7) d_LW_complain_7 ?_
  refine g_lastore (pc := 8) d_LW_complain_8 k_out (by rw [l_out]; exact vp_in_nI (n := 0) (N := 1) (by decide) (by decide)) ?_
  refine g_goto (pc := 9) (tgt := 18) d_LW_complain_9 (by decide) ?_
  refine g_iconst (pc := 18) (v := 0) d_LW_complain_18 (by decide) ?_
  refine g_iret (pc := 19) d_LW_complain_19 rfl ?_
  exact ⟨rfl, z, h1, q, rfl⟩
theorem we_complain_1 {E : En} {h : Hp} {x out kz nz : Nat} {y0 : Int32} {Q : Hp → Prop} (k_x : hK h x = 1) (hc : CT E m_HS_complain [.ref x, .int y0] h kz nz (fun _ _ => False) (fun C h1 => C = "java/lang/IndexOutOfBoundsException" ∧ Q h1)) (hk : kz ≤ 11) (hn : nz ≤ 156) : CT E m_LW_complain [.ref x, .int y0, .ref out] h 11 156 (fun v h1 => v = some (.int 1) ∧ Q h1) noX := by
  refine ct_ofH (by decide) (by decide +kernel) (Nat.le_of_ble_eq_true rfl) ?_
  show G E m_LW_complain 0 [(0, .ref x), (1, .int y0), (2, .ref out)] [] h 11 156 _ noX
  refine g_less hk hn ?_
  show G E m_LW_complain 0 [(0, .ref x), (1, .int y0), (2, .ref out)] [] h kz nz _ noX
  rw [← Nat.zero_add kz, ← Nat.zero_add nz]
  refine g_aload_n (pc := 0) d_LW_complain_0 rfl 2 rfl ?_
  refine g_iconst (pc := 1) (v := 0) d_LW_complain_1 (by decide) ?_
  refine g_aload_n (pc := 2) d_LW_complain_2 rfl 0 rfl ?_
  refine g_iload_n (pc := 3) d_LW_complain_3 rfl 1 rfl ?_
  refine g_callVH (k := 0) (n := 0) (pc := 4) (ci := 0) (As := [.int _]) d_LW_complain_4 mv_HS_complain st_LW_complain_43 rfl rfl (by decide) k_x rfl rfl (Nat.le_of_ble_eq_true rfl) hc (fun C h1 z => ?_) (fun _ _ z => z.elim)
  obtain ⟨rfl, q⟩ := z
  refine ⟨_, hc_LW_complain_1, fun q => ?_⟩
  refine g_astore_n (pc := 12) (lv' := [(3, .ref q), (0, .ref x), (1, .int y0), (2, .ref out)]) d_LW_complain_12 rfl (by decide) rfl ?_
  refine g_iconst (pc := 13) (v := 1) d_LW_complain_13 (by decide) ?_
  refine g_iret (pc := 14) d_LW_complain_14 rfl ?_
  exact ⟨rfl, by assumption⟩
theorem we_complain_2 {E : En} {h : Hp} {x out kz nz : Nat} {y0 : Int32} {Q : Hp → Prop} (k_x : hK h x = 1) (hc : CT E m_HS_complain [.ref x, .int y0] h kz nz (fun _ _ => False) (fun C h1 => C = "java/lang/IllegalStateException" ∧ Q h1)) (hk : kz ≤ 11) (hn : nz ≤ 156) : CT E m_LW_complain [.ref x, .int y0, .ref out] h 11 156 (fun v h1 => v = some (.int 2) ∧ Q h1) noX := by
  refine ct_ofH (by decide) (by decide +kernel) (Nat.le_of_ble_eq_true rfl) ?_
  show G E m_LW_complain 0 [(0, .ref x), (1, .int y0), (2, .ref out)] [] h 11 156 _ noX
  refine g_less hk hn ?_
  show G E m_LW_complain 0 [(0, .ref x), (1, .int y0), (2, .ref out)] [] h kz nz _ noX
  rw [← Nat.zero_add kz, ← Nat.zero_add nz]
  refine g_aload_n (pc := 0) d_LW_complain_0 rfl 2 rfl ?_
  refine g_iconst (pc := 1) (v := 0) d_LW_complain_1 (by decide) ?_
  refine g_aload_n (pc := 2) d_LW_complain_2 rfl 0 rfl ?_
  refine g_iload_n (pc := 3) d_LW_complain_3 rfl 1 rfl ?_
  refine g_callVH (k := 0) (n := 0) (pc := 4) (ci := 0) (As := [.int _]) d_LW_complain_4 mv_HS_complain st_LW_complain_43 rfl rfl (by decide) k_x rfl rfl (Nat.le_of_ble_eq_true rfl) hc (fun C h1 z => ?_) (fun _ _ z => z.elim)
  obtain ⟨rfl, q⟩ := z
  refine ⟨_, hc_LW_complain_2, fun q => ?_⟩
  refine g_astore_n (pc := 15) (lv' := [(3, .ref q), (0, .ref x), (1, .int y0), (2, .ref out)]) d_LW_complain_15 rfl (by decide) rfl ?_
  refine g_iconst (pc := 16) (v := 2) d_LW_complain_16 (by decide) ?_
  refine g_iret (pc := 17) d_LW_complain_17 rfl ?_
  exact ⟨rfl, by assumption⟩
theorem ws_reopen {E : En} {h : Hp} {x out kz nz : Nat} {y0 : Int32} {Q : Int32 → Hp → Prop} (k_x : hK h x = 1) (hq : ∀ z h9, Q z h9 → hK h9 out = 24 ∧ hL h9 out = 1) (hc : CT E m_HS_reopen [.ref x, .int y0] h kz nz (fun v h1 => ∃ z, v = some (.int z) ∧ Q z h1) noX) (hk : kz ≤ 11) (hn : nz ≤ 156) : CT E m_LW_reopen [.ref x, .int y0, .ref out] h 11 156 (fun v h1 => v = some (.int 0) ∧ ∃ z h9, Q z h9 ∧ h1 = sJ h9 out 0 z.toInt64) noX := by
  refine ct_ofH (by decide) (by decide +kernel) (Nat.le_of_ble_eq_true rfl) ?_
  show G E m_LW_reopen 0 [(0, .ref x), (1, .int y0), (2, .ref out)] [] h 11 156 _ noX
  refine g_less hk hn ?_
  show G E m_LW_reopen 0 [(0, .ref x), (1, .int y0), (2, .ref out)] [] h kz nz _ noX
  rw [← Nat.zero_add kz, ← Nat.zero_add nz]
  refine g_aload_n (pc := 0) d_LW_reopen_0 rfl 2 rfl ?_
  refine g_iconst (pc := 1) (v := 0) d_LW_reopen_1 (by decide) ?_
  refine g_aload_n (pc := 2) d_LW_reopen_2 rfl 0 rfl ?_
  refine g_iload_n (pc := 3) d_LW_reopen_3 rfl 1 rfl ?_
  refine g_callVH (k := 0) (n := 0) (pc := 4) (ci := 0) (As := [.int _]) d_LW_reopen_4 mv_HS_reopen st_LW_reopen_46 rfl rfl (by decide) k_x rfl rfl (Nat.le_of_ble_eq_true rfl) hc (fun _ _ z => z.elim) (fun v h1 z => ?_)
  obtain ⟨z, rfl, q⟩ := z
  obtain ⟨k_out, l_out⟩ := hq z h1 q
  refine g_i2l (pc := 7) d_LW_reopen_7 ?_
  refine g_lastore (pc := 8) d_LW_reopen_8 k_out (by rw [l_out]; exact vp_in_nI (n := 0) (N := 1) (by decide) (by decide)) ?_
  refine g_goto (pc := 9) (tgt := 18) d_LW_reopen_9 (by decide) ?_
  refine g_iconst (pc := 18) (v := 0) d_LW_reopen_18 (by decide) ?_
  refine g_iret (pc := 19) d_LW_reopen_19 rfl ?_
  exact ⟨rfl, z, h1, q, rfl⟩
theorem we_reopen_1 {E : En} {h : Hp} {x out kz nz : Nat} {y0 : Int32} {Q : Hp → Prop} (k_x : hK h x = 1) (hc : CT E m_HS_reopen [.ref x, .int y0] h kz nz (fun _ _ => False) (fun C h1 => C = "java/lang/IndexOutOfBoundsException" ∧ Q h1)) (hk : kz ≤ 11) (hn : nz ≤ 156) : CT E m_LW_reopen [.ref x, .int y0, .ref out] h 11 156 (fun v h1 => v = some (.int 1) ∧ Q h1) noX := by
  refine ct_ofH (by decide) (by decide +kernel) (Nat.le_of_ble_eq_true rfl) ?_
  show G E m_LW_reopen 0 [(0, .ref x), (1, .int y0), (2, .ref out)] [] h 11 156 _ noX
  refine g_less hk hn ?_
  show G E m_LW_reopen 0 [(0, .ref x), (1, .int y0), (2, .ref out)] [] h kz nz _ noX
  rw [← Nat.zero_add kz, ← Nat.zero_add nz]
  refine g_aload_n (pc := 0) d_LW_reopen_0 rfl 2 rfl ?_
  refine g_iconst (pc := 1) (v := 0) d_LW_reopen_1 (by decide) ?_
  refine g_aload_n (pc := 2) d_LW_reopen_2 rfl 0 rfl ?_
  refine g_iload_n (pc := 3) d_LW_reopen_3 rfl 1 rfl ?_
  refine g_callVH (k := 0) (n := 0) (pc := 4) (ci := 0) (As := [.int _]) d_LW_reopen_4 mv_HS_reopen st_LW_reopen_46 rfl rfl (by decide) k_x rfl rfl (Nat.le_of_ble_eq_true rfl) hc (fun C h1 z => ?_) (fun _ _ z => z.elim)
  obtain ⟨rfl, q⟩ := z
  refine ⟨_, hc_LW_reopen_1, fun q => ?_⟩
  refine g_astore_n (pc := 12) (lv' := [(3, .ref q), (0, .ref x), (1, .int y0), (2, .ref out)]) d_LW_reopen_12 rfl (by decide) rfl ?_
  refine g_iconst (pc := 13) (v := 1) d_LW_reopen_13 (by decide) ?_
  refine g_iret (pc := 14) d_LW_reopen_14 rfl ?_
  exact ⟨rfl, by assumption⟩
theorem we_reopen_2 {E : En} {h : Hp} {x out kz nz : Nat} {y0 : Int32} {Q : Hp → Prop} (k_x : hK h x = 1) (hc : CT E m_HS_reopen [.ref x, .int y0] h kz nz (fun _ _ => False) (fun C h1 => C = "java/lang/IllegalStateException" ∧ Q h1)) (hk : kz ≤ 11) (hn : nz ≤ 156) : CT E m_LW_reopen [.ref x, .int y0, .ref out] h 11 156 (fun v h1 => v = some (.int 2) ∧ Q h1) noX := by
  refine ct_ofH (by decide) (by decide +kernel) (Nat.le_of_ble_eq_true rfl) ?_
  show G E m_LW_reopen 0 [(0, .ref x), (1, .int y0), (2, .ref out)] [] h 11 156 _ noX
  refine g_less hk hn ?_
  show G E m_LW_reopen 0 [(0, .ref x), (1, .int y0), (2, .ref out)] [] h kz nz _ noX
  rw [← Nat.zero_add kz, ← Nat.zero_add nz]
  refine g_aload_n (pc := 0) d_LW_reopen_0 rfl 2 rfl ?_
  refine g_iconst (pc := 1) (v := 0) d_LW_reopen_1 (by decide) ?_
  refine g_aload_n (pc := 2) d_LW_reopen_2 rfl 0 rfl ?_
  refine g_iload_n (pc := 3) d_LW_reopen_3 rfl 1 rfl ?_
  refine g_callVH (k := 0) (n := 0) (pc := 4) (ci := 0) (As := [.int _]) d_LW_reopen_4 mv_HS_reopen st_LW_reopen_46 rfl rfl (by decide) k_x rfl rfl (Nat.le_of_ble_eq_true rfl) hc (fun C h1 z => ?_) (fun _ _ z => z.elim)
  obtain ⟨rfl, q⟩ := z
  refine ⟨_, hc_LW_reopen_2, fun q => ?_⟩
  refine g_astore_n (pc := 15) (lv' := [(3, .ref q), (0, .ref x), (1, .int y0), (2, .ref out)]) d_LW_reopen_15 rfl (by decide) rfl ?_
  refine g_iconst (pc := 16) (v := 2) d_LW_reopen_16 (by decide) ?_
  refine g_iret (pc := 17) d_LW_reopen_17 rfl ?_
  exact ⟨rfl, by assumption⟩
theorem ws_setInspectors {E : En} {h : Hp} {x out kz nz : Nat} {y0 : Int32} {Q : Int32 → Hp → Prop} (k_x : hK h x = 1) (hq : ∀ z h9, Q z h9 → hK h9 out = 24 ∧ hL h9 out = 1) (hc : CT E m_HS_setInspectors [.ref x, .int y0] h kz nz (fun v h1 => ∃ z, v = some (.int z) ∧ Q z h1) noX) (hk : kz ≤ 11) (hn : nz ≤ 156) : CT E m_LW_setInspectors [.ref x, .int y0, .ref out] h 11 156 (fun v h1 => v = some (.int 0) ∧ ∃ z h9, Q z h9 ∧ h1 = sJ h9 out 0 z.toInt64) noX := by
  refine ct_ofH (by decide) (by decide +kernel) (Nat.le_of_ble_eq_true rfl) ?_
  show G E m_LW_setInspectors 0 [(0, .ref x), (1, .int y0), (2, .ref out)] [] h 11 156 _ noX
  refine g_less hk hn ?_
  show G E m_LW_setInspectors 0 [(0, .ref x), (1, .int y0), (2, .ref out)] [] h kz nz _ noX
  rw [← Nat.zero_add kz, ← Nat.zero_add nz]
  refine g_aload_n (pc := 0) d_LW_setInspectors_0 rfl 2 rfl ?_
  refine g_iconst (pc := 1) (v := 0) d_LW_setInspectors_1 (by decide) ?_
  refine g_aload_n (pc := 2) d_LW_setInspectors_2 rfl 0 rfl ?_
  refine g_iload_n (pc := 3) d_LW_setInspectors_3 rfl 1 rfl ?_
  refine g_callVH (k := 0) (n := 0) (pc := 4) (ci := 0) (As := [.int _]) d_LW_setInspectors_4 mv_HS_setInspectors st_LW_setInspectors_49 rfl rfl (by decide) k_x rfl rfl (Nat.le_of_ble_eq_true rfl) hc (fun _ _ z => z.elim) (fun v h1 z => ?_)
  obtain ⟨z, rfl, q⟩ := z
  obtain ⟨k_out, l_out⟩ := hq z h1 q
  refine g_i2l (pc := 7) d_LW_setInspectors_7 ?_
  refine g_lastore (pc := 8) d_LW_setInspectors_8 k_out (by rw [l_out]; exact vp_in_nI (n := 0) (N := 1) (by decide) (by decide)) ?_
  refine g_goto (pc := 9) (tgt := 15) d_LW_setInspectors_9 (by decide) ?_
  refine g_iconst (pc := 15) (v := 0) d_LW_setInspectors_15 (by decide) ?_
  refine g_iret (pc := 16) d_LW_setInspectors_16 rfl ?_
  exact ⟨rfl, z, h1, q, rfl⟩
theorem we_setInspectors_1 {E : En} {h : Hp} {x out kz nz : Nat} {y0 : Int32} {Q : Hp → Prop} (k_x : hK h x = 1) (hc : CT E m_HS_setInspectors [.ref x, .int y0] h kz nz (fun _ _ => False) (fun C h1 => C = "java/lang/IllegalArgumentException" ∧ Q h1)) (hk : kz ≤ 11) (hn : nz ≤ 156) : CT E m_LW_setInspectors [.ref x, .int y0, .ref out] h 11 156 (fun v h1 => v = some (.int 1) ∧ Q h1) noX := by
  refine ct_ofH (by decide) (by decide +kernel) (Nat.le_of_ble_eq_true rfl) ?_
  show G E m_LW_setInspectors 0 [(0, .ref x), (1, .int y0), (2, .ref out)] [] h 11 156 _ noX
  refine g_less hk hn ?_
  show G E m_LW_setInspectors 0 [(0, .ref x), (1, .int y0), (2, .ref out)] [] h kz nz _ noX
  rw [← Nat.zero_add kz, ← Nat.zero_add nz]
  refine g_aload_n (pc := 0) d_LW_setInspectors_0 rfl 2 rfl ?_
  refine g_iconst (pc := 1) (v := 0) d_LW_setInspectors_1 (by decide) ?_
  refine g_aload_n (pc := 2) d_LW_setInspectors_2 rfl 0 rfl ?_
  refine g_iload_n (pc := 3) d_LW_setInspectors_3 rfl 1 rfl ?_
  refine g_callVH (k := 0) (n := 0) (pc := 4) (ci := 0) (As := [.int _]) d_LW_setInspectors_4 mv_HS_setInspectors st_LW_setInspectors_49 rfl rfl (by decide) k_x rfl rfl (Nat.le_of_ble_eq_true rfl) hc (fun C h1 z => ?_) (fun _ _ z => z.elim)
  obtain ⟨rfl, q⟩ := z
  refine ⟨_, hc_LW_setInspectors_1, fun q => ?_⟩
  refine g_astore_n (pc := 12) (lv' := [(3, .ref q), (0, .ref x), (1, .int y0), (2, .ref out)]) d_LW_setInspectors_12 rfl (by decide) rfl ?_
  refine g_iconst (pc := 13) (v := 1) d_LW_setInspectors_13 (by decide) ?_
  refine g_iret (pc := 14) d_LW_setInspectors_14 rfl ?_
  exact ⟨rfl, by assumption⟩
theorem ws_setFee {E : En} {h : Hp} {x out kz nz : Nat} {y0 : Int32} {Q : Int32 → Hp → Prop} (k_x : hK h x = 1) (hq : ∀ z h9, Q z h9 → hK h9 out = 24 ∧ hL h9 out = 1) (hc : CT E m_HS_setFee [.ref x, .int y0] h kz nz (fun v h1 => ∃ z, v = some (.int z) ∧ Q z h1) noX) (hk : kz ≤ 11) (hn : nz ≤ 156) : CT E m_LW_setFee [.ref x, .int y0, .ref out] h 11 156 (fun v h1 => v = some (.int 0) ∧ ∃ z h9, Q z h9 ∧ h1 = sJ h9 out 0 z.toInt64) noX := by
  refine ct_ofH (by decide) (by decide +kernel) (Nat.le_of_ble_eq_true rfl) ?_
  show G E m_LW_setFee 0 [(0, .ref x), (1, .int y0), (2, .ref out)] [] h 11 156 _ noX
  refine g_less hk hn ?_
  show G E m_LW_setFee 0 [(0, .ref x), (1, .int y0), (2, .ref out)] [] h kz nz _ noX
  rw [← Nat.zero_add kz, ← Nat.zero_add nz]
  refine g_aload_n (pc := 0) d_LW_setFee_0 rfl 2 rfl ?_
  refine g_iconst (pc := 1) (v := 0) d_LW_setFee_1 (by decide) ?_
  refine g_aload_n (pc := 2) d_LW_setFee_2 rfl 0 rfl ?_
  refine g_iload_n (pc := 3) d_LW_setFee_3 rfl 1 rfl ?_
  refine g_callVH (k := 0) (n := 0) (pc := 4) (ci := 0) (As := [.int _]) d_LW_setFee_4 mv_HS_setFee st_LW_setFee_52 rfl rfl (by decide) k_x rfl rfl (Nat.le_of_ble_eq_true rfl) hc (fun _ _ z => z.elim) (fun v h1 z => ?_)
  obtain ⟨z, rfl, q⟩ := z
  obtain ⟨k_out, l_out⟩ := hq z h1 q
  refine g_i2l (pc := 7) d_LW_setFee_7 ?_
  refine g_lastore (pc := 8) d_LW_setFee_8 k_out (by rw [l_out]; exact vp_in_nI (n := 0) (N := 1) (by decide) (by decide)) ?_
  refine g_goto (pc := 9) (tgt := 15) d_LW_setFee_9 (by decide) ?_
  refine g_iconst (pc := 15) (v := 0) d_LW_setFee_15 (by decide) ?_
  refine g_iret (pc := 16) d_LW_setFee_16 rfl ?_
  exact ⟨rfl, z, h1, q, rfl⟩
theorem we_setFee_1 {E : En} {h : Hp} {x out kz nz : Nat} {y0 : Int32} {Q : Hp → Prop} (k_x : hK h x = 1) (hc : CT E m_HS_setFee [.ref x, .int y0] h kz nz (fun _ _ => False) (fun C h1 => C = "java/lang/IllegalArgumentException" ∧ Q h1)) (hk : kz ≤ 11) (hn : nz ≤ 156) : CT E m_LW_setFee [.ref x, .int y0, .ref out] h 11 156 (fun v h1 => v = some (.int 1) ∧ Q h1) noX := by
  refine ct_ofH (by decide) (by decide +kernel) (Nat.le_of_ble_eq_true rfl) ?_
  show G E m_LW_setFee 0 [(0, .ref x), (1, .int y0), (2, .ref out)] [] h 11 156 _ noX
  refine g_less hk hn ?_
  show G E m_LW_setFee 0 [(0, .ref x), (1, .int y0), (2, .ref out)] [] h kz nz _ noX
  rw [← Nat.zero_add kz, ← Nat.zero_add nz]
  refine g_aload_n (pc := 0) d_LW_setFee_0 rfl 2 rfl ?_
  refine g_iconst (pc := 1) (v := 0) d_LW_setFee_1 (by decide) ?_
  refine g_aload_n (pc := 2) d_LW_setFee_2 rfl 0 rfl ?_
  refine g_iload_n (pc := 3) d_LW_setFee_3 rfl 1 rfl ?_
  refine g_callVH (k := 0) (n := 0) (pc := 4) (ci := 0) (As := [.int _]) d_LW_setFee_4 mv_HS_setFee st_LW_setFee_52 rfl rfl (by decide) k_x rfl rfl (Nat.le_of_ble_eq_true rfl) hc (fun C h1 z => ?_) (fun _ _ z => z.elim)
  obtain ⟨rfl, q⟩ := z
  refine ⟨_, hc_LW_setFee_1, fun q => ?_⟩
  refine g_astore_n (pc := 12) (lv' := [(3, .ref q), (0, .ref x), (1, .int y0), (2, .ref out)]) d_LW_setFee_12 rfl (by decide) rfl ?_
  refine g_iconst (pc := 13) (v := 1) d_LW_setFee_13 (by decide) ?_
  refine g_iret (pc := 14) d_LW_setFee_14 rfl ?_
  exact ⟨rfl, by assumption⟩
theorem ws_undo {E : En} {h : Hp} {x out kz nz : Nat}  {Q : Int32 → Hp → Prop} (k_x : hK h x = 1) (hq : ∀ z h9, Q z h9 → hK h9 out = 24 ∧ hL h9 out = 1) (hc : CT E m_HS_undo [.ref x] h kz nz (fun v h1 => ∃ z, v = some (.int z) ∧ Q z h1) noX) (hk : kz ≤ 11) (hn : nz ≤ 156) : CT E m_LW_undo [.ref x, .ref out] h 11 156 (fun v h1 => v = some (.int 0) ∧ ∃ z h9, Q z h9 ∧ h1 = sJ h9 out 0 z.toInt64) noX := by
  refine ct_ofH (by decide) (by decide +kernel) (Nat.le_of_ble_eq_true rfl) ?_
  show G E m_LW_undo 0 [(0, .ref x), (1, .ref out)] [] h 11 156 _ noX
  refine g_less hk hn ?_
  show G E m_LW_undo 0 [(0, .ref x), (1, .ref out)] [] h kz nz _ noX
  rw [← Nat.zero_add kz, ← Nat.zero_add nz]
  refine g_aload_n (pc := 0) d_LW_undo_0 rfl 1 rfl ?_
  refine g_iconst (pc := 1) (v := 0) d_LW_undo_1 (by decide) ?_
  refine g_aload_n (pc := 2) d_LW_undo_2 rfl 0 rfl ?_
  refine g_callVH (k := 0) (n := 0) (pc := 3) (ci := 0) (As := []) d_LW_undo_3 mv_HS_undo st_LW_undo_55 rfl rfl (by decide) k_x rfl rfl (Nat.le_of_ble_eq_true rfl) hc (fun _ _ z => z.elim) (fun v h1 z => ?_)
  obtain ⟨z, rfl, q⟩ := z
  obtain ⟨k_out, l_out⟩ := hq z h1 q
  refine g_i2l (pc := 6) d_LW_undo_6 ?_
  refine g_lastore (pc := 7) d_LW_undo_7 k_out (by rw [l_out]; exact vp_in_nI (n := 0) (N := 1) (by decide) (by decide)) ?_
  refine g_goto (pc := 8) (tgt := 14) d_LW_undo_8 (by decide) ?_
  refine g_iconst (pc := 14) (v := 0) d_LW_undo_14 (by decide) ?_
  refine g_iret (pc := 15) d_LW_undo_15 rfl ?_
  exact ⟨rfl, z, h1, q, rfl⟩
theorem we_undo_1 {E : En} {h : Hp} {x out kz nz : Nat}  {Q : Hp → Prop} (k_x : hK h x = 1) (hc : CT E m_HS_undo [.ref x] h kz nz (fun _ _ => False) (fun C h1 => C = "java/util/NoSuchElementException" ∧ Q h1)) (hk : kz ≤ 11) (hn : nz ≤ 156) : CT E m_LW_undo [.ref x, .ref out] h 11 156 (fun v h1 => v = some (.int 1) ∧ Q h1) noX := by
  refine ct_ofH (by decide) (by decide +kernel) (Nat.le_of_ble_eq_true rfl) ?_
  show G E m_LW_undo 0 [(0, .ref x), (1, .ref out)] [] h 11 156 _ noX
  refine g_less hk hn ?_
  show G E m_LW_undo 0 [(0, .ref x), (1, .ref out)] [] h kz nz _ noX
  rw [← Nat.zero_add kz, ← Nat.zero_add nz]
  refine g_aload_n (pc := 0) d_LW_undo_0 rfl 1 rfl ?_
  refine g_iconst (pc := 1) (v := 0) d_LW_undo_1 (by decide) ?_
  refine g_aload_n (pc := 2) d_LW_undo_2 rfl 0 rfl ?_
  refine g_callVH (k := 0) (n := 0) (pc := 3) (ci := 0) (As := []) d_LW_undo_3 mv_HS_undo st_LW_undo_55 rfl rfl (by decide) k_x rfl rfl (Nat.le_of_ble_eq_true rfl) hc (fun C h1 z => ?_) (fun _ _ z => z.elim)
  obtain ⟨rfl, q⟩ := z
  refine ⟨_, hc_LW_undo_1, fun q => ?_⟩
  refine g_astore_n (pc := 11) (lv' := [(2, .ref q), (0, .ref x), (1, .ref out)]) d_LW_undo_11 rfl (by decide) rfl ?_
  refine g_iconst (pc := 12) (v := 1) d_LW_undo_12 (by decide) ?_
  refine g_iret (pc := 13) d_LW_undo_13 rfl ?_
  exact ⟨rfl, by assumption⟩
theorem ws_saveSnapshot {E : En} {h : Hp} {x kz nz : Nat} {y0 : Int32} {Q : Hp → Prop} (k_x : hK h x = 1) (hc : CT E m_HS_saveSnapshot [.ref x, .int y0] h kz nz (fun v h1 => v = none ∧ Q h1) noX) (hk : kz ≤ 11) (hn : nz ≤ 156) : CT E m_LW_saveSnapshot [.ref x, .int y0] h 11 156 (fun v h1 => v = some (.int 0) ∧ Q h1) noX := by
  refine ct_ofH (by decide) (by decide +kernel) (Nat.le_of_ble_eq_true rfl) ?_
  show G E m_LW_saveSnapshot 0 [(0, .ref x), (1, .int y0)] [] h 11 156 _ noX
  refine g_less hk hn ?_
  show G E m_LW_saveSnapshot 0 [(0, .ref x), (1, .int y0)] [] h kz nz _ noX
  rw [← Nat.zero_add kz, ← Nat.zero_add nz]
  refine g_aload_n (pc := 0) d_LW_saveSnapshot_0 rfl 0 rfl ?_
  refine g_iload_n (pc := 1) d_LW_saveSnapshot_1 rfl 1 rfl ?_
  refine g_callVH (k := 0) (n := 0) (pc := 2) (ci := 0) (As := [.int _]) d_LW_saveSnapshot_2 mv_HS_saveSnapshot st_LW_saveSnapshot_60 rfl rfl (by decide) k_x rfl rfl (Nat.le_of_ble_eq_true rfl) hc (fun _ _ z => z.elim) (fun v h1 z => ?_)
  obtain ⟨rfl, q⟩ := z
  refine g_goto (pc := 5) (tgt := 11) d_LW_saveSnapshot_5 (by decide) ?_
  refine g_iconst (pc := 11) (v := 0) d_LW_saveSnapshot_11 (by decide) ?_
  refine g_iret (pc := 12) d_LW_saveSnapshot_12 rfl ?_
  exact ⟨rfl, q⟩
theorem we_saveSnapshot_1 {E : En} {h : Hp} {x kz nz : Nat} {y0 : Int32} {Q : Hp → Prop} (k_x : hK h x = 1) (hc : CT E m_HS_saveSnapshot [.ref x, .int y0] h kz nz (fun _ _ => False) (fun C h1 => C = "java/lang/IllegalArgumentException" ∧ Q h1)) (hk : kz ≤ 11) (hn : nz ≤ 156) : CT E m_LW_saveSnapshot [.ref x, .int y0] h 11 156 (fun v h1 => v = some (.int 1) ∧ Q h1) noX := by
  refine ct_ofH (by decide) (by decide +kernel) (Nat.le_of_ble_eq_true rfl) ?_
  show G E m_LW_saveSnapshot 0 [(0, .ref x), (1, .int y0)] [] h 11 156 _ noX
  refine g_less hk hn ?_
  show G E m_LW_saveSnapshot 0 [(0, .ref x), (1, .int y0)] [] h kz nz _ noX
  rw [← Nat.zero_add kz, ← Nat.zero_add nz]
  refine g_aload_n (pc := 0) d_LW_saveSnapshot_0 rfl 0 rfl ?_
  refine g_iload_n (pc := 1) d_LW_saveSnapshot_1 rfl 1 rfl ?_
  refine g_callVH (k := 0) (n := 0) (pc := 2) (ci := 0) (As := [.int _]) d_LW_saveSnapshot_2 mv_HS_saveSnapshot st_LW_saveSnapshot_60 rfl rfl (by decide) k_x rfl rfl (Nat.le_of_ble_eq_true rfl) hc (fun C h1 z => ?_) (fun _ _ z => z.elim)
  obtain ⟨rfl, q⟩ := z
  refine ⟨_, hc_LW_saveSnapshot_1, fun q => ?_⟩
  refine g_astore_n (pc := 8) (lv' := [(2, .ref q), (0, .ref x), (1, .int y0)]) d_LW_saveSnapshot_8 rfl (by decide) rfl ?_
  refine g_iconst (pc := 9) (v := 1) d_LW_saveSnapshot_9 (by decide) ?_
  refine g_iret (pc := 10) d_LW_saveSnapshot_10 rfl ?_
  exact ⟨rfl, by assumption⟩
theorem ws_restoreSnapshot {E : En} {h : Hp} {x out kz nz : Nat} {y0 : Int32} {Q : Int32 → Hp → Prop} (k_x : hK h x = 1) (hq : ∀ z h9, Q z h9 → hK h9 out = 24 ∧ hL h9 out = 1) (hc : CT E m_HS_restoreSnapshot [.ref x, .int y0] h kz nz (fun v h1 => ∃ z, v = some (.int z) ∧ Q z h1) noX) (hk : kz ≤ 11) (hn : nz ≤ 156) : CT E m_LW_restoreSnapshot [.ref x, .int y0, .ref out] h 11 156 (fun v h1 => v = some (.int 0) ∧ ∃ z h9, Q z h9 ∧ h1 = sJ h9 out 0 z.toInt64) noX := by
  refine ct_ofH (by decide) (by decide +kernel) (Nat.le_of_ble_eq_true rfl) ?_
  show G E m_LW_restoreSnapshot 0 [(0, .ref x), (1, .int y0), (2, .ref out)] [] h 11 156 _ noX
  refine g_less hk hn ?_
  show G E m_LW_restoreSnapshot 0 [(0, .ref x), (1, .int y0), (2, .ref out)] [] h kz nz _ noX
  rw [← Nat.zero_add kz, ← Nat.zero_add nz]
  refine g_aload_n (pc := 0) d_LW_restoreSnapshot_0 rfl 2 rfl ?_
  refine g_iconst (pc := 1) (v := 0) d_LW_restoreSnapshot_1 (by decide) ?_
  refine g_aload_n (pc := 2) d_LW_restoreSnapshot_2 rfl 0 rfl ?_
  refine g_iload_n (pc := 3) d_LW_restoreSnapshot_3 rfl 1 rfl ?_
  refine g_callVH (k := 0) (n := 0) (pc := 4) (ci := 0) (As := [.int _]) d_LW_restoreSnapshot_4 mv_HS_restoreSnapshot st_LW_restoreSnapshot_64 rfl rfl (by decide) k_x rfl rfl (Nat.le_of_ble_eq_true rfl) hc (fun _ _ z => z.elim) (fun v h1 z => ?_)
  obtain ⟨z, rfl, q⟩ := z
  obtain ⟨k_out, l_out⟩ := hq z h1 q
  refine g_i2l (pc := 7) d_LW_restoreSnapshot_7 ?_
  refine g_lastore (pc := 8) d_LW_restoreSnapshot_8 k_out (by rw [l_out]; exact vp_in_nI (n := 0) (N := 1) (by decide) (by decide)) ?_
  refine g_goto (pc := 9) (tgt := 18) d_LW_restoreSnapshot_9 (by decide) ?_
  refine g_iconst (pc := 18) (v := 0) d_LW_restoreSnapshot_18 (by decide) ?_
  refine g_iret (pc := 19) d_LW_restoreSnapshot_19 rfl ?_
  exact ⟨rfl, z, h1, q, rfl⟩
theorem we_restoreSnapshot_1 {E : En} {h : Hp} {x out kz nz : Nat} {y0 : Int32} {Q : Hp → Prop} (k_x : hK h x = 1) (hc : CT E m_HS_restoreSnapshot [.ref x, .int y0] h kz nz (fun _ _ => False) (fun C h1 => C = "java/lang/IllegalArgumentException" ∧ Q h1)) (hk : kz ≤ 11) (hn : nz ≤ 156) : CT E m_LW_restoreSnapshot [.ref x, .int y0, .ref out] h 11 156 (fun v h1 => v = some (.int 1) ∧ Q h1) noX := by
  refine ct_ofH (by decide) (by decide +kernel) (Nat.le_of_ble_eq_true rfl) ?_
  show G E m_LW_restoreSnapshot 0 [(0, .ref x), (1, .int y0), (2, .ref out)] [] h 11 156 _ noX
  refine g_less hk hn ?_
  show G E m_LW_restoreSnapshot 0 [(0, .ref x), (1, .int y0), (2, .ref out)] [] h kz nz _ noX
  rw [← Nat.zero_add kz, ← Nat.zero_add nz]
  refine g_aload_n (pc := 0) d_LW_restoreSnapshot_0 rfl 2 rfl ?_
  refine g_iconst (pc := 1) (v := 0) d_LW_restoreSnapshot_1 (by decide) ?_
  refine g_aload_n (pc := 2) d_LW_restoreSnapshot_2 rfl 0 rfl ?_
  refine g_iload_n (pc := 3) d_LW_restoreSnapshot_3 rfl 1 rfl ?_
  refine g_callVH (k := 0) (n := 0) (pc := 4) (ci := 0) (As := [.int _]) d_LW_restoreSnapshot_4 mv_HS_restoreSnapshot st_LW_restoreSnapshot_64 rfl rfl (by decide) k_x rfl rfl (Nat.le_of_ble_eq_true rfl) hc (fun C h1 z => ?_) (fun _ _ z => z.elim)
  obtain ⟨rfl, q⟩ := z
  refine ⟨_, hc_LW_restoreSnapshot_1, fun q => ?_⟩
  refine g_astore_n (pc := 12) (lv' := [(3, .ref q), (0, .ref x), (1, .int y0), (2, .ref out)]) d_LW_restoreSnapshot_12 rfl (by decide) rfl ?_
  refine g_iconst (pc := 13) (v := 1) d_LW_restoreSnapshot_13 (by decide) ?_
  refine g_iret (pc := 14) d_LW_restoreSnapshot_14 rfl ?_
  exact ⟨rfl, by assumption⟩
theorem we_restoreSnapshot_2 {E : En} {h : Hp} {x out kz nz : Nat} {y0 : Int32} {Q : Hp → Prop} (k_x : hK h x = 1) (hc : CT E m_HS_restoreSnapshot [.ref x, .int y0] h kz nz (fun _ _ => False) (fun C h1 => C = "java/util/NoSuchElementException" ∧ Q h1)) (hk : kz ≤ 11) (hn : nz ≤ 156) : CT E m_LW_restoreSnapshot [.ref x, .int y0, .ref out] h 11 156 (fun v h1 => v = some (.int 2) ∧ Q h1) noX := by
  refine ct_ofH (by decide) (by decide +kernel) (Nat.le_of_ble_eq_true rfl) ?_
  show G E m_LW_restoreSnapshot 0 [(0, .ref x), (1, .int y0), (2, .ref out)] [] h 11 156 _ noX
  refine g_less hk hn ?_
  show G E m_LW_restoreSnapshot 0 [(0, .ref x), (1, .int y0), (2, .ref out)] [] h kz nz _ noX
  rw [← Nat.zero_add kz, ← Nat.zero_add nz]
  refine g_aload_n (pc := 0) d_LW_restoreSnapshot_0 rfl 2 rfl ?_
  refine g_iconst (pc := 1) (v := 0) d_LW_restoreSnapshot_1 (by decide) ?_
  refine g_aload_n (pc := 2) d_LW_restoreSnapshot_2 rfl 0 rfl ?_
  refine g_iload_n (pc := 3) d_LW_restoreSnapshot_3 rfl 1 rfl ?_
  refine g_callVH (k := 0) (n := 0) (pc := 4) (ci := 0) (As := [.int _]) d_LW_restoreSnapshot_4 mv_HS_restoreSnapshot st_LW_restoreSnapshot_64 rfl rfl (by decide) k_x rfl rfl (Nat.le_of_ble_eq_true rfl) hc (fun C h1 z => ?_) (fun _ _ z => z.elim)
  obtain ⟨rfl, q⟩ := z
  refine ⟨_, hc_LW_restoreSnapshot_2, fun q => ?_⟩
  refine g_astore_n (pc := 15) (lv' := [(3, .ref q), (0, .ref x), (1, .int y0), (2, .ref out)]) d_LW_restoreSnapshot_15 rfl (by decide) rfl ?_
  refine g_iconst (pc := 16) (v := 2) d_LW_restoreSnapshot_16 (by decide) ?_
  refine g_iret (pc := 17) d_LW_restoreSnapshot_17 rfl ?_
  exact ⟨rfl, by assumption⟩
theorem ws_testWeight {E : En} {h : Hp} {x out kz nz : Nat} {y0 : Int32} {Q : Int32 → Hp → Prop} (k_x : hK h x = 1) (hq : ∀ z h9, Q z h9 → hK h9 out = 24 ∧ hL h9 out = 1) (hc : CT E m_HS_testWeight [.ref x, .int y0] h kz nz (fun v h1 => ∃ z, v = some (.int z) ∧ Q z h1) noX) (hk : kz ≤ 11) (hn : nz ≤ 156) : CT E m_LW_testWeight [.ref x, .int y0, .ref out] h 11 156 (fun v h1 => v = some (.int 0) ∧ ∃ z h9, Q z h9 ∧ h1 = sJ h9 out 0 z.toInt64) noX := by
  refine ct_ofH (by decide) (by decide +kernel) (Nat.le_of_ble_eq_true rfl) ?_
  show G E m_LW_testWeight 0 [(0, .ref x), (1, .int y0), (2, .ref out)] [] h 11 156 _ noX
  refine g_less hk hn ?_
  show G E m_LW_testWeight 0 [(0, .ref x), (1, .int y0), (2, .ref out)] [] h kz nz _ noX
  rw [← Nat.zero_add kz, ← Nat.zero_add nz]
  refine g_aload_n (pc := 0) d_LW_testWeight_0 rfl 2 rfl ?_
  refine g_iconst (pc := 1) (v := 0) d_LW_testWeight_1 (by decide) ?_
  refine g_aload_n (pc := 2) d_LW_testWeight_2 rfl 0 rfl ?_
  refine g_iload_n (pc := 3) d_LW_testWeight_3 rfl 1 rfl ?_
  refine g_callVH (k := 0) (n := 0) (pc := 4) (ci := 0) (As := [.int _]) d_LW_testWeight_4 mv_HS_testWeight st_LW_testWeight_67 rfl rfl (by decide) k_x rfl rfl (Nat.le_of_ble_eq_true rfl) hc (fun _ _ z => z.elim) (fun v h1 z => ?_)
  obtain ⟨z, rfl, q⟩ := z
  obtain ⟨k_out, l_out⟩ := hq z h1 q
  refine g_i2l (pc := 7) d_LW_testWeight_7 ?_
  refine g_lastore (pc := 8) d_LW_testWeight_8 k_out (by rw [l_out]; exact vp_in_nI (n := 0) (N := 1) (by decide) (by decide)) ?_
  refine g_goto (pc := 9) (tgt := 15) d_LW_testWeight_9 (by decide) ?_
  refine g_iconst (pc := 15) (v := 0) d_LW_testWeight_15 (by decide) ?_
  refine g_iret (pc := 16) d_LW_testWeight_16 rfl ?_
  exact ⟨rfl, z, h1, q, rfl⟩
theorem we_testWeight_1 {E : En} {h : Hp} {x out kz nz : Nat} {y0 : Int32} {Q : Hp → Prop} (k_x : hK h x = 1) (hc : CT E m_HS_testWeight [.ref x, .int y0] h kz nz (fun _ _ => False) (fun C h1 => C = "java/lang/IndexOutOfBoundsException" ∧ Q h1)) (hk : kz ≤ 11) (hn : nz ≤ 156) : CT E m_LW_testWeight [.ref x, .int y0, .ref out] h 11 156 (fun v h1 => v = some (.int 1) ∧ Q h1) noX := by
  refine ct_ofH (by decide) (by decide +kernel) (Nat.le_of_ble_eq_true rfl) ?_
  show G E m_LW_testWeight 0 [(0, .ref x), (1, .int y0), (2, .ref out)] [] h 11 156 _ noX
  refine g_less hk hn ?_
  show G E m_LW_testWeight 0 [(0, .ref x), (1, .int y0), (2, .ref out)] [] h kz nz _ noX
  rw [← Nat.zero_add kz, ← Nat.zero_add nz]
  refine g_aload_n (pc := 0) d_LW_testWeight_0 rfl 2 rfl ?_
  refine g_iconst (pc := 1) (v := 0) d_LW_testWeight_1 (by decide) ?_
  refine g_aload_n (pc := 2) d_LW_testWeight_2 rfl 0 rfl ?_
  refine g_iload_n (pc := 3) d_LW_testWeight_3 rfl 1 rfl ?_
  refine g_callVH (k := 0) (n := 0) (pc := 4) (ci := 0) (As := [.int _]) d_LW_testWeight_4 mv_HS_testWeight st_LW_testWeight_67 rfl rfl (by decide) k_x rfl rfl (Nat.le_of_ble_eq_true rfl) hc (fun C h1 z => ?_) (fun _ _ z => z.elim)
  obtain ⟨rfl, q⟩ := z
  refine ⟨_, hc_LW_testWeight_1, fun q => ?_⟩
  refine g_astore_n (pc := 12) (lv' := [(3, .ref q), (0, .ref x), (1, .int y0), (2, .ref out)]) d_LW_testWeight_12 rfl (by decide) rfl ?_
  refine g_iconst (pc := 13) (v := 1) d_LW_testWeight_13 (by decide) ?_
  refine g_iret (pc := 14) d_LW_testWeight_14 rfl ?_
  exact ⟨rfl, by assumption⟩
theorem ws_bound {E : En} {h : Hp} {x out kz nz : Nat} {y0 : Int32} {Q : Int32 → Hp → Prop} (k_x : hK h x = 1) (hq : ∀ z h9, Q z h9 → hK h9 out = 24 ∧ hL h9 out = 1) (hc : CT E m_HS_bound [.ref x, .int y0] h kz nz (fun v h1 => ∃ z, v = some (.int z) ∧ Q z h1) noX) (hk : kz ≤ 11) (hn : nz ≤ 156) : CT E m_LW_bound [.ref x, .int y0, .ref out] h 11 156 (fun v h1 => v = some (.int 0) ∧ ∃ z h9, Q z h9 ∧ h1 = sJ h9 out 0 z.toInt64) noX := by
  refine ct_ofH (by decide) (by decide +kernel) (Nat.le_of_ble_eq_true rfl) ?_
  show G E m_LW_bound 0 [(0, .ref x), (1, .int y0), (2, .ref out)] [] h 11 156 _ noX
  refine g_less hk hn ?_
  show G E m_LW_bound 0 [(0, .ref x), (1, .int y0), (2, .ref out)] [] h kz nz _ noX
  rw [← Nat.zero_add kz, ← Nat.zero_add nz]
  refine g_aload_n (pc := 0) d_LW_bound_0 rfl 2 rfl ?_
  refine g_iconst (pc := 1) (v := 0) d_LW_bound_1 (by decide) ?_
  refine g_aload_n (pc := 2) d_LW_bound_2 rfl 0 rfl ?_
  refine g_iload_n (pc := 3) d_LW_bound_3 rfl 1 rfl ?_
  refine g_callVH (k := 0) (n := 0) (pc := 4) (ci := 0) (As := [.int _]) d_LW_bound_4 mv_HS_bound st_LW_bound_70 rfl rfl (by decide) k_x rfl rfl (Nat.le_of_ble_eq_true rfl) hc (fun _ _ z => z.elim) (fun v h1 z => ?_)
  obtain ⟨z, rfl, q⟩ := z
  obtain ⟨k_out, l_out⟩ := hq z h1 q
  refine g_i2l (pc := 7) d_LW_bound_7 ?_
  refine g_lastore (pc := 8) d_LW_bound_8 k_out (by rw [l_out]; exact vp_in_nI (n := 0) (N := 1) (by decide) (by decide)) ?_
  refine g_goto (pc := 9) (tgt := 15) d_LW_bound_9 (by decide) ?_
  refine g_iconst (pc := 15) (v := 0) d_LW_bound_15 (by decide) ?_
  refine g_iret (pc := 16) d_LW_bound_16 rfl ?_
  exact ⟨rfl, z, h1, q, rfl⟩
theorem we_bound_1 {E : En} {h : Hp} {x out kz nz : Nat} {y0 : Int32} {Q : Hp → Prop} (k_x : hK h x = 1) (hc : CT E m_HS_bound [.ref x, .int y0] h kz nz (fun _ _ => False) (fun C h1 => C = "java/lang/IllegalArgumentException" ∧ Q h1)) (hk : kz ≤ 11) (hn : nz ≤ 156) : CT E m_LW_bound [.ref x, .int y0, .ref out] h 11 156 (fun v h1 => v = some (.int 1) ∧ Q h1) noX := by
  refine ct_ofH (by decide) (by decide +kernel) (Nat.le_of_ble_eq_true rfl) ?_
  show G E m_LW_bound 0 [(0, .ref x), (1, .int y0), (2, .ref out)] [] h 11 156 _ noX
  refine g_less hk hn ?_
  show G E m_LW_bound 0 [(0, .ref x), (1, .int y0), (2, .ref out)] [] h kz nz _ noX
  rw [← Nat.zero_add kz, ← Nat.zero_add nz]
  refine g_aload_n (pc := 0) d_LW_bound_0 rfl 2 rfl ?_
  refine g_iconst (pc := 1) (v := 0) d_LW_bound_1 (by decide) ?_
  refine g_aload_n (pc := 2) d_LW_bound_2 rfl 0 rfl ?_
  refine g_iload_n (pc := 3) d_LW_bound_3 rfl 1 rfl ?_
  refine g_callVH (k := 0) (n := 0) (pc := 4) (ci := 0) (As := [.int _]) d_LW_bound_4 mv_HS_bound st_LW_bound_70 rfl rfl (by decide) k_x rfl rfl (Nat.le_of_ble_eq_true rfl) hc (fun C h1 z => ?_) (fun _ _ z => z.elim)
  obtain ⟨rfl, q⟩ := z
  refine ⟨_, hc_LW_bound_1, fun q => ?_⟩
  refine g_astore_n (pc := 12) (lv' := [(3, .ref q), (0, .ref x), (1, .int y0), (2, .ref out)]) d_LW_bound_12 rfl (by decide) rfl ?_
  refine g_iconst (pc := 13) (v := 1) d_LW_bound_13 (by decide) ?_
  refine g_iret (pc := 14) d_LW_bound_14 rfl ?_
  exact ⟨rfl, by assumption⟩
theorem ws_offset {E : En} {h : Hp} {x out kz nz : Nat} {y0 : Int32} {Q : Int32 → Hp → Prop} (k_x : hK h x = 1) (hq : ∀ z h9, Q z h9 → hK h9 out = 24 ∧ hL h9 out = 1) (hc : CT E m_HS_offset [.ref x, .int y0] h kz nz (fun v h1 => ∃ z, v = some (.int z) ∧ Q z h1) noX) (hk : kz ≤ 11) (hn : nz ≤ 156) : CT E m_LW_offset [.ref x, .int y0, .ref out] h 11 156 (fun v h1 => v = some (.int 0) ∧ ∃ z h9, Q z h9 ∧ h1 = sJ h9 out 0 z.toInt64) noX := by
  refine ct_ofH (by decide) (by decide +kernel) (Nat.le_of_ble_eq_true rfl) ?_
  show G E m_LW_offset 0 [(0, .ref x), (1, .int y0), (2, .ref out)] [] h 11 156 _ noX
  refine g_less hk hn ?_
  show G E m_LW_offset 0 [(0, .ref x), (1, .int y0), (2, .ref out)] [] h kz nz _ noX
  rw [← Nat.zero_add kz, ← Nat.zero_add nz]
  refine g_aload_n (pc := 0) d_LW_offset_0 rfl 2 rfl ?_
  refine g_iconst (pc := 1) (v := 0) d_LW_offset_1 (by decide) ?_
  refine g_aload_n (pc := 2) d_LW_offset_2 rfl 0 rfl ?_
  refine g_iload_n (pc := 3) d_LW_offset_3 rfl 1 rfl ?_
  refine g_callVH (k := 0) (n := 0) (pc := 4) (ci := 0) (As := [.int _]) d_LW_offset_4 mv_HS_offset st_LW_offset_73 rfl rfl (by decide) k_x rfl rfl (Nat.le_of_ble_eq_true rfl) hc (fun _ _ z => z.elim) (fun v h1 z => ?_)
  obtain ⟨z, rfl, q⟩ := z
  obtain ⟨k_out, l_out⟩ := hq z h1 q
  refine g_i2l (pc := 7) d_LW_offset_7 ?_
  refine g_lastore (pc := 8) d_LW_offset_8 k_out (by rw [l_out]; exact vp_in_nI (n := 0) (N := 1) (by decide) (by decide)) ?_
  refine g_goto (pc := 9) (tgt := 15) d_LW_offset_9 (by decide) ?_
  refine g_iconst (pc := 15) (v := 0) d_LW_offset_15 (by decide) ?_
  refine g_iret (pc := 16) d_LW_offset_16 rfl ?_
  exact ⟨rfl, z, h1, q, rfl⟩
theorem we_offset_1 {E : En} {h : Hp} {x out kz nz : Nat} {y0 : Int32} {Q : Hp → Prop} (k_x : hK h x = 1) (hc : CT E m_HS_offset [.ref x, .int y0] h kz nz (fun _ _ => False) (fun C h1 => C = "java/lang/IndexOutOfBoundsException" ∧ Q h1)) (hk : kz ≤ 11) (hn : nz ≤ 156) : CT E m_LW_offset [.ref x, .int y0, .ref out] h 11 156 (fun v h1 => v = some (.int 1) ∧ Q h1) noX := by
  refine ct_ofH (by decide) (by decide +kernel) (Nat.le_of_ble_eq_true rfl) ?_
  show G E m_LW_offset 0 [(0, .ref x), (1, .int y0), (2, .ref out)] [] h 11 156 _ noX
  refine g_less hk hn ?_
  show G E m_LW_offset 0 [(0, .ref x), (1, .int y0), (2, .ref out)] [] h kz nz _ noX
  rw [← Nat.zero_add kz, ← Nat.zero_add nz]
  refine g_aload_n (pc := 0) d_LW_offset_0 rfl 2 rfl ?_
  refine g_iconst (pc := 1) (v := 0) d_LW_offset_1 (by decide) ?_
  refine g_aload_n (pc := 2) d_LW_offset_2 rfl 0 rfl ?_
  refine g_iload_n (pc := 3) d_LW_offset_3 rfl 1 rfl ?_
  refine g_callVH (k := 0) (n := 0) (pc := 4) (ci := 0) (As := [.int _]) d_LW_offset_4 mv_HS_offset st_LW_offset_73 rfl rfl (by decide) k_x rfl rfl (Nat.le_of_ble_eq_true rfl) hc (fun C h1 z => ?_) (fun _ _ z => z.elim)
  obtain ⟨rfl, q⟩ := z
  refine ⟨_, hc_LW_offset_1, fun q => ?_⟩
  refine g_astore_n (pc := 12) (lv' := [(3, .ref q), (0, .ref x), (1, .int y0), (2, .ref out)]) d_LW_offset_12 rfl (by decide) rfl ?_
  refine g_iconst (pc := 13) (v := 1) d_LW_offset_13 (by decide) ?_
  refine g_iret (pc := 14) d_LW_offset_14 rfl ?_
  exact ⟨rfl, by assumption⟩
theorem ws_slope {E : En} {h : Hp} {x out kz nz : Nat} {y0 : Int32} {Q : Int32 → Hp → Prop} (k_x : hK h x = 1) (hq : ∀ z h9, Q z h9 → hK h9 out = 24 ∧ hL h9 out = 1) (hc : CT E m_HS_slope [.ref x, .int y0] h kz nz (fun v h1 => ∃ z, v = some (.int z) ∧ Q z h1) noX) (hk : kz ≤ 11) (hn : nz ≤ 156) : CT E m_LW_slope [.ref x, .int y0, .ref out] h 11 156 (fun v h1 => v = some (.int 0) ∧ ∃ z h9, Q z h9 ∧ h1 = sJ h9 out 0 z.toInt64) noX := by
  refine ct_ofH (by decide) (by decide +kernel) (Nat.le_of_ble_eq_true rfl) ?_
  show G E m_LW_slope 0 [(0, .ref x), (1, .int y0), (2, .ref out)] [] h 11 156 _ noX
  refine g_less hk hn ?_
  show G E m_LW_slope 0 [(0, .ref x), (1, .int y0), (2, .ref out)] [] h kz nz _ noX
  rw [← Nat.zero_add kz, ← Nat.zero_add nz]
  refine g_aload_n (pc := 0) d_LW_slope_0 rfl 2 rfl ?_
  refine g_iconst (pc := 1) (v := 0) d_LW_slope_1 (by decide) ?_
  refine g_aload_n (pc := 2) d_LW_slope_2 rfl 0 rfl ?_
  refine g_iload_n (pc := 3) d_LW_slope_3 rfl 1 rfl ?_
  refine g_callVH (k := 0) (n := 0) (pc := 4) (ci := 0) (As := [.int _]) d_LW_slope_4 mv_HS_slope st_LW_slope_76 rfl rfl (by decide) k_x rfl rfl (Nat.le_of_ble_eq_true rfl) hc (fun _ _ z => z.elim) (fun v h1 z => ?_)
  obtain ⟨z, rfl, q⟩ := z
  obtain ⟨k_out, l_out⟩ := hq z h1 q
  refine g_i2l (pc := 7) d_LW_slope_7 ?_
  refine g_lastore (pc := 8) d_LW_slope_8 k_out (by rw [l_out]; exact vp_in_nI (n := 0) (N := 1) (by decide) (by decide)) ?_
  refine g_goto (pc := 9) (tgt := 15) d_LW_slope_9 (by decide) ?_
  refine g_iconst (pc := 15) (v := 0) d_LW_slope_15 (by decide) ?_
  refine g_iret (pc := 16) d_LW_slope_16 rfl ?_
  exact ⟨rfl, z, h1, q, rfl⟩
theorem we_slope_1 {E : En} {h : Hp} {x out kz nz : Nat} {y0 : Int32} {Q : Hp → Prop} (k_x : hK h x = 1) (hc : CT E m_HS_slope [.ref x, .int y0] h kz nz (fun _ _ => False) (fun C h1 => C = "java/lang/IndexOutOfBoundsException" ∧ Q h1)) (hk : kz ≤ 11) (hn : nz ≤ 156) : CT E m_LW_slope [.ref x, .int y0, .ref out] h 11 156 (fun v h1 => v = some (.int 1) ∧ Q h1) noX := by
  refine ct_ofH (by decide) (by decide +kernel) (Nat.le_of_ble_eq_true rfl) ?_
  show G E m_LW_slope 0 [(0, .ref x), (1, .int y0), (2, .ref out)] [] h 11 156 _ noX
  refine g_less hk hn ?_
  show G E m_LW_slope 0 [(0, .ref x), (1, .int y0), (2, .ref out)] [] h kz nz _ noX
  rw [← Nat.zero_add kz, ← Nat.zero_add nz]
  refine g_aload_n (pc := 0) d_LW_slope_0 rfl 2 rfl ?_
  refine g_iconst (pc := 1) (v := 0) d_LW_slope_1 (by decide) ?_
  refine g_aload_n (pc := 2) d_LW_slope_2 rfl 0 rfl ?_
  refine g_iload_n (pc := 3) d_LW_slope_3 rfl 1 rfl ?_
  refine g_callVH (k := 0) (n := 0) (pc := 4) (ci := 0) (As := [.int _]) d_LW_slope_4 mv_HS_slope st_LW_slope_76 rfl rfl (by decide) k_x rfl rfl (Nat.le_of_ble_eq_true rfl) hc (fun C h1 z => ?_) (fun _ _ z => z.elim)
  obtain ⟨rfl, q⟩ := z
  refine ⟨_, hc_LW_slope_1, fun q => ?_⟩
  refine g_astore_n (pc := 12) (lv' := [(3, .ref q), (0, .ref x), (1, .int y0), (2, .ref out)]) d_LW_slope_12 rfl (by decide) rfl ?_
  refine g_iconst (pc := 13) (v := 1) d_LW_slope_13 (by decide) ?_
  refine g_iret (pc := 14) d_LW_slope_14 rfl ?_
  exact ⟨rfl, by assumption⟩
theorem ws_drift {E : En} {h : Hp} {x out kz nz : Nat} {y0 : Int32} {Q : Int32 → Hp → Prop} (k_x : hK h x = 1) (hq : ∀ z h9, Q z h9 → hK h9 out = 24 ∧ hL h9 out = 1) (hc : CT E m_HS_drift [.ref x, .int y0] h kz nz (fun v h1 => ∃ z, v = some (.int z) ∧ Q z h1) noX) (hk : kz ≤ 11) (hn : nz ≤ 156) : CT E m_LW_drift [.ref x, .int y0, .ref out] h 11 156 (fun v h1 => v = some (.int 0) ∧ ∃ z h9, Q z h9 ∧ h1 = sJ h9 out 0 z.toInt64) noX := by
  refine ct_ofH (by decide) (by decide +kernel) (Nat.le_of_ble_eq_true rfl) ?_
  show G E m_LW_drift 0 [(0, .ref x), (1, .int y0), (2, .ref out)] [] h 11 156 _ noX
  refine g_less hk hn ?_
  show G E m_LW_drift 0 [(0, .ref x), (1, .int y0), (2, .ref out)] [] h kz nz _ noX
  rw [← Nat.zero_add kz, ← Nat.zero_add nz]
  refine g_aload_n (pc := 0) d_LW_drift_0 rfl 2 rfl ?_
  refine g_iconst (pc := 1) (v := 0) d_LW_drift_1 (by decide) ?_
  refine g_aload_n (pc := 2) d_LW_drift_2 rfl 0 rfl ?_
  refine g_iload_n (pc := 3) d_LW_drift_3 rfl 1 rfl ?_
  refine g_callVH (k := 0) (n := 0) (pc := 4) (ci := 0) (As := [.int _]) d_LW_drift_4 mv_HS_drift st_LW_drift_79 rfl rfl (by decide) k_x rfl rfl (Nat.le_of_ble_eq_true rfl) hc (fun _ _ z => z.elim) (fun v h1 z => ?_)
  obtain ⟨z, rfl, q⟩ := z
  obtain ⟨k_out, l_out⟩ := hq z h1 q
  refine g_i2l (pc := 7) d_LW_drift_7 ?_
  refine g_lastore (pc := 8) d_LW_drift_8 k_out (by rw [l_out]; exact vp_in_nI (n := 0) (N := 1) (by decide) (by decide)) ?_
  refine g_goto (pc := 9) (tgt := 15) d_LW_drift_9 (by decide) ?_
  refine g_iconst (pc := 15) (v := 0) d_LW_drift_15 (by decide) ?_
  refine g_iret (pc := 16) d_LW_drift_16 rfl ?_
  exact ⟨rfl, z, h1, q, rfl⟩
theorem we_drift_1 {E : En} {h : Hp} {x out kz nz : Nat} {y0 : Int32} {Q : Hp → Prop} (k_x : hK h x = 1) (hc : CT E m_HS_drift [.ref x, .int y0] h kz nz (fun _ _ => False) (fun C h1 => C = "java/lang/IndexOutOfBoundsException" ∧ Q h1)) (hk : kz ≤ 11) (hn : nz ≤ 156) : CT E m_LW_drift [.ref x, .int y0, .ref out] h 11 156 (fun v h1 => v = some (.int 1) ∧ Q h1) noX := by
  refine ct_ofH (by decide) (by decide +kernel) (Nat.le_of_ble_eq_true rfl) ?_
  show G E m_LW_drift 0 [(0, .ref x), (1, .int y0), (2, .ref out)] [] h 11 156 _ noX
  refine g_less hk hn ?_
  show G E m_LW_drift 0 [(0, .ref x), (1, .int y0), (2, .ref out)] [] h kz nz _ noX
  rw [← Nat.zero_add kz, ← Nat.zero_add nz]
  refine g_aload_n (pc := 0) d_LW_drift_0 rfl 2 rfl ?_
  refine g_iconst (pc := 1) (v := 0) d_LW_drift_1 (by decide) ?_
  refine g_aload_n (pc := 2) d_LW_drift_2 rfl 0 rfl ?_
  refine g_iload_n (pc := 3) d_LW_drift_3 rfl 1 rfl ?_
  refine g_callVH (k := 0) (n := 0) (pc := 4) (ci := 0) (As := [.int _]) d_LW_drift_4 mv_HS_drift st_LW_drift_79 rfl rfl (by decide) k_x rfl rfl (Nat.le_of_ble_eq_true rfl) hc (fun C h1 z => ?_) (fun _ _ z => z.elim)
  obtain ⟨rfl, q⟩ := z
  refine ⟨_, hc_LW_drift_1, fun q => ?_⟩
  refine g_astore_n (pc := 12) (lv' := [(3, .ref q), (0, .ref x), (1, .int y0), (2, .ref out)]) d_LW_drift_12 rfl (by decide) rfl ?_
  refine g_iconst (pc := 13) (v := 1) d_LW_drift_13 (by decide) ?_
  refine g_iret (pc := 14) d_LW_drift_14 rfl ?_
  exact ⟨rfl, by assumption⟩
theorem ws_reading {E : En} {h : Hp} {x out kz nz : Nat} {y0 y1 : Int32} {Q : Int32 → Hp → Prop} (k_x : hK h x = 1) (hq : ∀ z h9, Q z h9 → hK h9 out = 24 ∧ hL h9 out = 1) (hc : CT E m_HS_reading [.ref x, .int y0, .int y1] h kz nz (fun v h1 => ∃ z, v = some (.int z) ∧ Q z h1) noX) (hk : kz ≤ 11) (hn : nz ≤ 156) : CT E m_LW_reading [.ref x, .int y0, .int y1, .ref out] h 11 156 (fun v h1 => v = some (.int 0) ∧ ∃ z h9, Q z h9 ∧ h1 = sJ h9 out 0 z.toInt64) noX := by
  refine ct_ofH (by decide) (by decide +kernel) (Nat.le_of_ble_eq_true rfl) ?_
  show G E m_LW_reading 0 [(0, .ref x), (1, .int y0), (2, .int y1), (3, .ref out)] [] h 11 156 _ noX
  refine g_less hk hn ?_
  show G E m_LW_reading 0 [(0, .ref x), (1, .int y0), (2, .int y1), (3, .ref out)] [] h kz nz _ noX
  rw [← Nat.zero_add kz, ← Nat.zero_add nz]
  refine g_aload_n (pc := 0) d_LW_reading_0 rfl 3 rfl ?_
  refine g_iconst (pc := 1) (v := 0) d_LW_reading_1 (by decide) ?_
  refine g_aload_n (pc := 2) d_LW_reading_2 rfl 0 rfl ?_
  refine g_iload_n (pc := 3) d_LW_reading_3 rfl 1 rfl ?_
  refine g_iload_n (pc := 4) d_LW_reading_4 rfl 2 rfl ?_
  refine g_callVH (k := 0) (n := 0) (pc := 5) (ci := 0) (As := [.int _, .int _]) d_LW_reading_5 mv_HS_reading st_LW_reading_82 rfl rfl (by decide) k_x rfl rfl (Nat.le_of_ble_eq_true rfl) hc (fun _ _ z => z.elim) (fun v h1 z => ?_)
  obtain ⟨z, rfl, q⟩ := z
  obtain ⟨k_out, l_out⟩ := hq z h1 q
  refine g_i2l (pc := 8) d_LW_reading_8 ?_
  refine g_lastore (pc := 9) d_LW_reading_9 k_out (by rw [l_out]; exact vp_in_nI (n := 0) (N := 1) (by decide) (by decide)) ?_
  refine g_goto (pc := 10) (tgt := 21) d_LW_reading_10 (by decide) ?_
  refine g_iconst (pc := 21) (v := 0) d_LW_reading_21 (by decide) ?_
  refine g_iret (pc := 22) d_LW_reading_22 rfl ?_
  exact ⟨rfl, z, h1, q, rfl⟩
theorem we_reading_1 {E : En} {h : Hp} {x out kz nz : Nat} {y0 y1 : Int32} {Q : Hp → Prop} (k_x : hK h x = 1) (hc : CT E m_HS_reading [.ref x, .int y0, .int y1] h kz nz (fun _ _ => False) (fun C h1 => C = "java/lang/IndexOutOfBoundsException" ∧ Q h1)) (hk : kz ≤ 11) (hn : nz ≤ 156) : CT E m_LW_reading [.ref x, .int y0, .int y1, .ref out] h 11 156 (fun v h1 => v = some (.int 1) ∧ Q h1) noX := by
  refine ct_ofH (by decide) (by decide +kernel) (Nat.le_of_ble_eq_true rfl) ?_
  show G E m_LW_reading 0 [(0, .ref x), (1, .int y0), (2, .int y1), (3, .ref out)] [] h 11 156 _ noX
  refine g_less hk hn ?_
  show G E m_LW_reading 0 [(0, .ref x), (1, .int y0), (2, .int y1), (3, .ref out)] [] h kz nz _ noX
  rw [← Nat.zero_add kz, ← Nat.zero_add nz]
  refine g_aload_n (pc := 0) d_LW_reading_0 rfl 3 rfl ?_
  refine g_iconst (pc := 1) (v := 0) d_LW_reading_1 (by decide) ?_
  refine g_aload_n (pc := 2) d_LW_reading_2 rfl 0 rfl ?_
  refine g_iload_n (pc := 3) d_LW_reading_3 rfl 1 rfl ?_
  refine g_iload_n (pc := 4) d_LW_reading_4 rfl 2 rfl ?_
  refine g_callVH (k := 0) (n := 0) (pc := 5) (ci := 0) (As := [.int _, .int _]) d_LW_reading_5 mv_HS_reading st_LW_reading_82 rfl rfl (by decide) k_x rfl rfl (Nat.le_of_ble_eq_true rfl) hc (fun C h1 z => ?_) (fun _ _ z => z.elim)
  obtain ⟨rfl, q⟩ := z
  refine ⟨_, hc_LW_reading_1, fun q => ?_⟩
  refine g_astore (pc := 13) (lv' := [(4, .ref q), (0, .ref x), (1, .int y0), (2, .int y1), (3, .ref out)]) d_LW_reading_13 (by decide) rfl ?_
  refine g_iconst (pc := 15) (v := 1) d_LW_reading_15 (by decide) ?_
  refine g_iret (pc := 16) d_LW_reading_16 rfl ?_
  exact ⟨rfl, by assumption⟩
theorem we_reading_2 {E : En} {h : Hp} {x out kz nz : Nat} {y0 y1 : Int32} {Q : Hp → Prop} (k_x : hK h x = 1) (hc : CT E m_HS_reading [.ref x, .int y0, .int y1] h kz nz (fun _ _ => False) (fun C h1 => C = "java/lang/IllegalArgumentException" ∧ Q h1)) (hk : kz ≤ 11) (hn : nz ≤ 156) : CT E m_LW_reading [.ref x, .int y0, .int y1, .ref out] h 11 156 (fun v h1 => v = some (.int 2) ∧ Q h1) noX := by
  refine ct_ofH (by decide) (by decide +kernel) (Nat.le_of_ble_eq_true rfl) ?_
  show G E m_LW_reading 0 [(0, .ref x), (1, .int y0), (2, .int y1), (3, .ref out)] [] h 11 156 _ noX
  refine g_less hk hn ?_
  show G E m_LW_reading 0 [(0, .ref x), (1, .int y0), (2, .int y1), (3, .ref out)] [] h kz nz _ noX
  rw [← Nat.zero_add kz, ← Nat.zero_add nz]
  refine g_aload_n (pc := 0) d_LW_reading_0 rfl 3 rfl ?_
  refine g_iconst (pc := 1) (v := 0) d_LW_reading_1 (by decide) ?_
  refine g_aload_n (pc := 2) d_LW_reading_2 rfl 0 rfl ?_
  refine g_iload_n (pc := 3) d_LW_reading_3 rfl 1 rfl ?_
  refine g_iload_n (pc := 4) d_LW_reading_4 rfl 2 rfl ?_
  refine g_callVH (k := 0) (n := 0) (pc := 5) (ci := 0) (As := [.int _, .int _]) d_LW_reading_5 mv_HS_reading st_LW_reading_82 rfl rfl (by decide) k_x rfl rfl (Nat.le_of_ble_eq_true rfl) hc (fun C h1 z => ?_) (fun _ _ z => z.elim)
  obtain ⟨rfl, q⟩ := z
  refine ⟨_, hc_LW_reading_2, fun q => ?_⟩
  refine g_astore (pc := 17) (lv' := [(4, .ref q), (0, .ref x), (1, .int y0), (2, .int y1), (3, .ref out)]) d_LW_reading_17 (by decide) rfl ?_
  refine g_iconst (pc := 19) (v := 2) d_LW_reading_19 (by decide) ?_
  refine g_iret (pc := 20) d_LW_reading_20 rfl ?_
  exact ⟨rfl, by assumption⟩
theorem ws_excess {E : En} {h : Hp} {x out kz nz : Nat} {y0 y1 : Int32} {Q : Int32 → Hp → Prop} (k_x : hK h x = 1) (hq : ∀ z h9, Q z h9 → hK h9 out = 24 ∧ hL h9 out = 1) (hc : CT E m_HS_excess [.ref x, .int y0, .int y1] h kz nz (fun v h1 => ∃ z, v = some (.int z) ∧ Q z h1) noX) (hk : kz ≤ 11) (hn : nz ≤ 156) : CT E m_LW_excess [.ref x, .int y0, .int y1, .ref out] h 11 156 (fun v h1 => v = some (.int 0) ∧ ∃ z h9, Q z h9 ∧ h1 = sJ h9 out 0 z.toInt64) noX := by
  refine ct_ofH (by decide) (by decide +kernel) (Nat.le_of_ble_eq_true rfl) ?_
  show G E m_LW_excess 0 [(0, .ref x), (1, .int y0), (2, .int y1), (3, .ref out)] [] h 11 156 _ noX
  refine g_less hk hn ?_
  show G E m_LW_excess 0 [(0, .ref x), (1, .int y0), (2, .int y1), (3, .ref out)] [] h kz nz _ noX
  rw [← Nat.zero_add kz, ← Nat.zero_add nz]
  refine g_aload_n (pc := 0) d_LW_excess_0 rfl 3 rfl ?_
  refine g_iconst (pc := 1) (v := 0) d_LW_excess_1 (by decide) ?_
  refine g_aload_n (pc := 2) d_LW_excess_2 rfl 0 rfl ?_
  refine g_iload_n (pc := 3) d_LW_excess_3 rfl 1 rfl ?_
  refine g_iload_n (pc := 4) d_LW_excess_4 rfl 2 rfl ?_
  refine g_callVH (k := 0) (n := 0) (pc := 5) (ci := 0) (As := [.int _, .int _]) d_LW_excess_5 mv_HS_excess st_LW_excess_85 rfl rfl (by decide) k_x rfl rfl (Nat.le_of_ble_eq_true rfl) hc (fun _ _ z => z.elim) (fun v h1 z => ?_)
  obtain ⟨z, rfl, q⟩ := z
  obtain ⟨k_out, l_out⟩ := hq z h1 q
  refine g_i2l (pc := 8) d_LW_excess_8 ?_
  refine g_lastore (pc := 9) d_LW_excess_9 k_out (by rw [l_out]; exact vp_in_nI (n := 0) (N := 1) (by decide) (by decide)) ?_
  refine g_goto (pc := 10) (tgt := 21) d_LW_excess_10 (by decide) ?_
  refine g_iconst (pc := 21) (v := 0) d_LW_excess_21 (by decide) ?_
  refine g_iret (pc := 22) d_LW_excess_22 rfl ?_
  exact ⟨rfl, z, h1, q, rfl⟩
theorem we_excess_1 {E : En} {h : Hp} {x out kz nz : Nat} {y0 y1 : Int32} {Q : Hp → Prop} (k_x : hK h x = 1) (hc : CT E m_HS_excess [.ref x, .int y0, .int y1] h kz nz (fun _ _ => False) (fun C h1 => C = "java/lang/IndexOutOfBoundsException" ∧ Q h1)) (hk : kz ≤ 11) (hn : nz ≤ 156) : CT E m_LW_excess [.ref x, .int y0, .int y1, .ref out] h 11 156 (fun v h1 => v = some (.int 1) ∧ Q h1) noX := by
  refine ct_ofH (by decide) (by decide +kernel) (Nat.le_of_ble_eq_true rfl) ?_
  show G E m_LW_excess 0 [(0, .ref x), (1, .int y0), (2, .int y1), (3, .ref out)] [] h 11 156 _ noX
  refine g_less hk hn ?_
  show G E m_LW_excess 0 [(0, .ref x), (1, .int y0), (2, .int y1), (3, .ref out)] [] h kz nz _ noX
  rw [← Nat.zero_add kz, ← Nat.zero_add nz]
  refine g_aload_n (pc := 0) d_LW_excess_0 rfl 3 rfl ?_
  refine g_iconst (pc := 1) (v := 0) d_LW_excess_1 (by decide) ?_
  refine g_aload_n (pc := 2) d_LW_excess_2 rfl 0 rfl ?_
  refine g_iload_n (pc := 3) d_LW_excess_3 rfl 1 rfl ?_
  refine g_iload_n (pc := 4) d_LW_excess_4 rfl 2 rfl ?_
  refine g_callVH (k := 0) (n := 0) (pc := 5) (ci := 0) (As := [.int _, .int _]) d_LW_excess_5 mv_HS_excess st_LW_excess_85 rfl rfl (by decide) k_x rfl rfl (Nat.le_of_ble_eq_true rfl) hc (fun C h1 z => ?_) (fun _ _ z => z.elim)
  obtain ⟨rfl, q⟩ := z
  refine ⟨_, hc_LW_excess_1, fun q => ?_⟩
  refine g_astore (pc := 13) (lv' := [(4, .ref q), (0, .ref x), (1, .int y0), (2, .int y1), (3, .ref out)]) d_LW_excess_13 (by decide) rfl ?_
  refine g_iconst (pc := 15) (v := 1) d_LW_excess_15 (by decide) ?_
  refine g_iret (pc := 16) d_LW_excess_16 rfl ?_
  exact ⟨rfl, by assumption⟩
theorem we_excess_2 {E : En} {h : Hp} {x out kz nz : Nat} {y0 y1 : Int32} {Q : Hp → Prop} (k_x : hK h x = 1) (hc : CT E m_HS_excess [.ref x, .int y0, .int y1] h kz nz (fun _ _ => False) (fun C h1 => C = "java/lang/IllegalArgumentException" ∧ Q h1)) (hk : kz ≤ 11) (hn : nz ≤ 156) : CT E m_LW_excess [.ref x, .int y0, .int y1, .ref out] h 11 156 (fun v h1 => v = some (.int 2) ∧ Q h1) noX := by
  refine ct_ofH (by decide) (by decide +kernel) (Nat.le_of_ble_eq_true rfl) ?_
  show G E m_LW_excess 0 [(0, .ref x), (1, .int y0), (2, .int y1), (3, .ref out)] [] h 11 156 _ noX
  refine g_less hk hn ?_
  show G E m_LW_excess 0 [(0, .ref x), (1, .int y0), (2, .int y1), (3, .ref out)] [] h kz nz _ noX
  rw [← Nat.zero_add kz, ← Nat.zero_add nz]
  refine g_aload_n (pc := 0) d_LW_excess_0 rfl 3 rfl ?_
  refine g_iconst (pc := 1) (v := 0) d_LW_excess_1 (by decide) ?_
  refine g_aload_n (pc := 2) d_LW_excess_2 rfl 0 rfl ?_
  refine g_iload_n (pc := 3) d_LW_excess_3 rfl 1 rfl ?_
  refine g_iload_n (pc := 4) d_LW_excess_4 rfl 2 rfl ?_
  refine g_callVH (k := 0) (n := 0) (pc := 5) (ci := 0) (As := [.int _, .int _]) d_LW_excess_5 mv_HS_excess st_LW_excess_85 rfl rfl (by decide) k_x rfl rfl (Nat.le_of_ble_eq_true rfl) hc (fun C h1 z => ?_) (fun _ _ z => z.elim)
  obtain ⟨rfl, q⟩ := z
  refine ⟨_, hc_LW_excess_2, fun q => ?_⟩
  refine g_astore (pc := 17) (lv' := [(4, .ref q), (0, .ref x), (1, .int y0), (2, .int y1), (3, .ref out)]) d_LW_excess_17 (by decide) rfl ?_
  refine g_iconst (pc := 19) (v := 2) d_LW_excess_19 (by decide) ?_
  refine g_iret (pc := 20) d_LW_excess_20 rfl ?_
  exact ⟨rfl, by assumption⟩
theorem ws_totalExcess {E : En} {h : Hp} {x out kz nz : Nat} {y0 : Int32} {Q : Int32 → Hp → Prop} (k_x : hK h x = 1) (hq : ∀ z h9, Q z h9 → hK h9 out = 24 ∧ hL h9 out = 1) (hc : CT E m_HS_totalExcess [.ref x, .int y0] h kz nz (fun v h1 => ∃ z, v = some (.int z) ∧ Q z h1) noX) (hk : kz ≤ 11) (hn : nz ≤ 156) : CT E m_LW_totalExcess [.ref x, .int y0, .ref out] h 11 156 (fun v h1 => v = some (.int 0) ∧ ∃ z h9, Q z h9 ∧ h1 = sJ h9 out 0 z.toInt64) noX := by
  refine ct_ofH (by decide) (by decide +kernel) (Nat.le_of_ble_eq_true rfl) ?_
  show G E m_LW_totalExcess 0 [(0, .ref x), (1, .int y0), (2, .ref out)] [] h 11 156 _ noX
  refine g_less hk hn ?_
  show G E m_LW_totalExcess 0 [(0, .ref x), (1, .int y0), (2, .ref out)] [] h kz nz _ noX
  rw [← Nat.zero_add kz, ← Nat.zero_add nz]
  refine g_aload_n (pc := 0) d_LW_totalExcess_0 rfl 2 rfl ?_
  refine g_iconst (pc := 1) (v := 0) d_LW_totalExcess_1 (by decide) ?_
  refine g_aload_n (pc := 2) d_LW_totalExcess_2 rfl 0 rfl ?_
  refine g_iload_n (pc := 3) d_LW_totalExcess_3 rfl 1 rfl ?_
  refine g_callVH (k := 0) (n := 0) (pc := 4) (ci := 0) (As := [.int _]) d_LW_totalExcess_4 mv_HS_totalExcess st_LW_totalExcess_88 rfl rfl (by decide) k_x rfl rfl (Nat.le_of_ble_eq_true rfl) hc (fun _ _ z => z.elim) (fun v h1 z => ?_)
  obtain ⟨z, rfl, q⟩ := z
  obtain ⟨k_out, l_out⟩ := hq z h1 q
  refine g_i2l (pc := 7) d_LW_totalExcess_7 ?_
  refine g_lastore (pc := 8) d_LW_totalExcess_8 k_out (by rw [l_out]; exact vp_in_nI (n := 0) (N := 1) (by decide) (by decide)) ?_
  refine g_goto (pc := 9) (tgt := 15) d_LW_totalExcess_9 (by decide) ?_
  refine g_iconst (pc := 15) (v := 0) d_LW_totalExcess_15 (by decide) ?_
  refine g_iret (pc := 16) d_LW_totalExcess_16 rfl ?_
  exact ⟨rfl, z, h1, q, rfl⟩
theorem we_totalExcess_1 {E : En} {h : Hp} {x out kz nz : Nat} {y0 : Int32} {Q : Hp → Prop} (k_x : hK h x = 1) (hc : CT E m_HS_totalExcess [.ref x, .int y0] h kz nz (fun _ _ => False) (fun C h1 => C = "java/lang/IndexOutOfBoundsException" ∧ Q h1)) (hk : kz ≤ 11) (hn : nz ≤ 156) : CT E m_LW_totalExcess [.ref x, .int y0, .ref out] h 11 156 (fun v h1 => v = some (.int 1) ∧ Q h1) noX := by
  refine ct_ofH (by decide) (by decide +kernel) (Nat.le_of_ble_eq_true rfl) ?_
  show G E m_LW_totalExcess 0 [(0, .ref x), (1, .int y0), (2, .ref out)] [] h 11 156 _ noX
  refine g_less hk hn ?_
  show G E m_LW_totalExcess 0 [(0, .ref x), (1, .int y0), (2, .ref out)] [] h kz nz _ noX
  rw [← Nat.zero_add kz, ← Nat.zero_add nz]
  refine g_aload_n (pc := 0) d_LW_totalExcess_0 rfl 2 rfl ?_
  refine g_iconst (pc := 1) (v := 0) d_LW_totalExcess_1 (by decide) ?_
  refine g_aload_n (pc := 2) d_LW_totalExcess_2 rfl 0 rfl ?_
  refine g_iload_n (pc := 3) d_LW_totalExcess_3 rfl 1 rfl ?_
  refine g_callVH (k := 0) (n := 0) (pc := 4) (ci := 0) (As := [.int _]) d_LW_totalExcess_4 mv_HS_totalExcess st_LW_totalExcess_88 rfl rfl (by decide) k_x rfl rfl (Nat.le_of_ble_eq_true rfl) hc (fun C h1 z => ?_) (fun _ _ z => z.elim)
  obtain ⟨rfl, q⟩ := z
  refine ⟨_, hc_LW_totalExcess_1, fun q => ?_⟩
  refine g_astore_n (pc := 12) (lv' := [(3, .ref q), (0, .ref x), (1, .int y0), (2, .ref out)]) d_LW_totalExcess_12 rfl (by decide) rfl ?_
  refine g_iconst (pc := 13) (v := 1) d_LW_totalExcess_13 (by decide) ?_
  refine g_iret (pc := 14) d_LW_totalExcess_14 rfl ?_
  exact ⟨rfl, by assumption⟩
theorem ws_isTrue {E : En} {h : Hp} {x out kz nz : Nat} {y0 : Int32} {Q : Int32 → Hp → Prop} (k_x : hK h x = 1) (hq : ∀ z h9, Q z h9 → hK h9 out = 24 ∧ hL h9 out = 1) (hc : CT E m_HS_isTrue [.ref x, .int y0] h kz nz (fun v h1 => ∃ z, v = some (.int z) ∧ Q z h1) noX) (hk : kz ≤ 11) (hn : nz ≤ 156) : CT E m_LW_isTrue [.ref x, .int y0, .ref out] h 11 156 (fun v h1 => v = some (.int 0) ∧ ∃ z h9, Q z h9 ∧ h1 = sJ h9 out 0 (if z = 0 then 0 else 1)) noX := by
  refine ct_ofH (by decide) (by decide +kernel) (Nat.le_of_ble_eq_true rfl) ?_
  show G E m_LW_isTrue 0 [(0, .ref x), (1, .int y0), (2, .ref out)] [] h 11 156 _ noX
  refine g_less hk hn ?_
  show G E m_LW_isTrue 0 [(0, .ref x), (1, .int y0), (2, .ref out)] [] h kz nz _ noX
  rw [← Nat.zero_add kz, ← Nat.zero_add nz]
  refine g_aload_n (pc := 0) d_LW_isTrue_0 rfl 2 rfl ?_
  refine g_iconst (pc := 1) (v := 0) d_LW_isTrue_1 (by decide) ?_
  refine g_aload_n (pc := 2) d_LW_isTrue_2 rfl 0 rfl ?_
  refine g_iload_n (pc := 3) d_LW_isTrue_3 rfl 1 rfl ?_
  refine g_callVH (k := 0) (n := 0) (pc := 4) (ci := 0) (As := [.int _]) d_LW_isTrue_4 mv_HS_isTrue st_LW_isTrue_91 rfl rfl (by decide) k_x rfl rfl (Nat.le_of_ble_eq_true rfl) hc (fun _ _ z => z.elim) (fun v h1 z => ?_)
  obtain ⟨z, rfl, q⟩ := z
  obtain ⟨k_out, l_out⟩ := hq z h1 q
  refine g_if_eq (pc := 7) (tgt := 14) d_LW_isTrue_7 (by decide) (fun c => ?_) (fun c => ?_)
  · refine g_lconst (pc := 14) (v := 0) d_LW_isTrue_14 (by decide) ?_
    refine g_lastore (pc := 15) d_LW_isTrue_15 k_out (by rw [l_out]; exact vp_in_nI (n := 0) (N := 1) (by decide) (by decide)) ?_
    refine g_goto (pc := 16) (tgt := 22) d_LW_isTrue_16 (by decide) ?_
    refine g_iconst (pc := 22) (v := 0) d_LW_isTrue_22 (by decide) ?_
    refine g_iret (pc := 23) d_LW_isTrue_23 rfl ?_
    exact ⟨rfl, z, h1, q, by rw [if_pos c]; rfl⟩
  · refine g_lconst (pc := 10) (v := 1) d_LW_isTrue_10 (by decide) ?_
    refine g_goto (pc := 11) (tgt := 15) d_LW_isTrue_11 (by decide) ?_
    refine g_lastore (pc := 15) d_LW_isTrue_15 k_out (by rw [l_out]; exact vp_in_nI (n := 0) (N := 1) (by decide) (by decide)) ?_
    refine g_goto (pc := 16) (tgt := 22) d_LW_isTrue_16 (by decide) ?_
    refine g_iconst (pc := 22) (v := 0) d_LW_isTrue_22 (by decide) ?_
    refine g_iret (pc := 23) d_LW_isTrue_23 rfl ?_
    exact ⟨rfl, z, h1, q, by rw [if_neg c]; rfl⟩
theorem we_isTrue_1 {E : En} {h : Hp} {x out kz nz : Nat} {y0 : Int32} {Q : Hp → Prop} (k_x : hK h x = 1) (hc : CT E m_HS_isTrue [.ref x, .int y0] h kz nz (fun _ _ => False) (fun C h1 => C = "java/lang/IndexOutOfBoundsException" ∧ Q h1)) (hk : kz ≤ 11) (hn : nz ≤ 156) : CT E m_LW_isTrue [.ref x, .int y0, .ref out] h 11 156 (fun v h1 => v = some (.int 1) ∧ Q h1) noX := by
  refine ct_ofH (by decide) (by decide +kernel) (Nat.le_of_ble_eq_true rfl) ?_
  show G E m_LW_isTrue 0 [(0, .ref x), (1, .int y0), (2, .ref out)] [] h 11 156 _ noX
  refine g_less hk hn ?_
  show G E m_LW_isTrue 0 [(0, .ref x), (1, .int y0), (2, .ref out)] [] h kz nz _ noX
  rw [← Nat.zero_add kz, ← Nat.zero_add nz]
  refine g_aload_n (pc := 0) d_LW_isTrue_0 rfl 2 rfl ?_
  refine g_iconst (pc := 1) (v := 0) d_LW_isTrue_1 (by decide) ?_
  refine g_aload_n (pc := 2) d_LW_isTrue_2 rfl 0 rfl ?_
  refine g_iload_n (pc := 3) d_LW_isTrue_3 rfl 1 rfl ?_
  refine g_callVH (k := 0) (n := 0) (pc := 4) (ci := 0) (As := [.int _]) d_LW_isTrue_4 mv_HS_isTrue st_LW_isTrue_91 rfl rfl (by decide) k_x rfl rfl (Nat.le_of_ble_eq_true rfl) hc (fun C h1 z => ?_) (fun _ _ z => z.elim)
  obtain ⟨rfl, q⟩ := z
  refine ⟨_, hc_LW_isTrue_1, fun q => ?_⟩
  refine g_astore_n (pc := 19) (lv' := [(3, .ref q), (0, .ref x), (1, .int y0), (2, .ref out)]) d_LW_isTrue_19 rfl (by decide) rfl ?_
  refine g_iconst (pc := 20) (v := 1) d_LW_isTrue_20 (by decide) ?_
  refine g_iret (pc := 21) d_LW_isTrue_21 rfl ?_
  exact ⟨rfl, by assumption⟩
theorem ws_worstWeight {E : En} {h : Hp} {x out kz nz : Nat} {y0 : Int32} {Q : Int32 → Hp → Prop} (k_x : hK h x = 1) (hq : ∀ z h9, Q z h9 → hK h9 out = 24 ∧ hL h9 out = 1) (hc : CT E m_HS_worstWeight [.ref x, .int y0] h kz nz (fun v h1 => ∃ z, v = some (.int z) ∧ Q z h1) noX) (hk : kz ≤ 11) (hn : nz ≤ 156) : CT E m_LW_worstWeight [.ref x, .int y0, .ref out] h 11 156 (fun v h1 => v = some (.int 0) ∧ ∃ z h9, Q z h9 ∧ h1 = sJ h9 out 0 z.toInt64) noX := by
  refine ct_ofH (by decide) (by decide +kernel) (Nat.le_of_ble_eq_true rfl) ?_
  show G E m_LW_worstWeight 0 [(0, .ref x), (1, .int y0), (2, .ref out)] [] h 11 156 _ noX
  refine g_less hk hn ?_
  show G E m_LW_worstWeight 0 [(0, .ref x), (1, .int y0), (2, .ref out)] [] h kz nz _ noX
  rw [← Nat.zero_add kz, ← Nat.zero_add nz]
  refine g_aload_n (pc := 0) d_LW_worstWeight_0 rfl 2 rfl ?_
  refine g_iconst (pc := 1) (v := 0) d_LW_worstWeight_1 (by decide) ?_
  refine g_aload_n (pc := 2) d_LW_worstWeight_2 rfl 0 rfl ?_
  refine g_iload_n (pc := 3) d_LW_worstWeight_3 rfl 1 rfl ?_
  refine g_callVH (k := 0) (n := 0) (pc := 4) (ci := 0) (As := [.int _]) d_LW_worstWeight_4 mv_HS_worstWeight st_LW_worstWeight_95 rfl rfl (by decide) k_x rfl rfl (Nat.le_of_ble_eq_true rfl) hc (fun _ _ z => z.elim) (fun v h1 z => ?_)
  obtain ⟨z, rfl, q⟩ := z
  obtain ⟨k_out, l_out⟩ := hq z h1 q
  refine g_i2l (pc := 7) d_LW_worstWeight_7 ?_
  refine g_lastore (pc := 8) d_LW_worstWeight_8 k_out (by rw [l_out]; exact vp_in_nI (n := 0) (N := 1) (by decide) (by decide)) ?_
  refine g_goto (pc := 9) (tgt := 15) d_LW_worstWeight_9 (by decide) ?_
  refine g_iconst (pc := 15) (v := 0) d_LW_worstWeight_15 (by decide) ?_
  refine g_iret (pc := 16) d_LW_worstWeight_16 rfl ?_
  exact ⟨rfl, z, h1, q, rfl⟩
theorem we_worstWeight_1 {E : En} {h : Hp} {x out kz nz : Nat} {y0 : Int32} {Q : Hp → Prop} (k_x : hK h x = 1) (hc : CT E m_HS_worstWeight [.ref x, .int y0] h kz nz (fun _ _ => False) (fun C h1 => C = "java/lang/IndexOutOfBoundsException" ∧ Q h1)) (hk : kz ≤ 11) (hn : nz ≤ 156) : CT E m_LW_worstWeight [.ref x, .int y0, .ref out] h 11 156 (fun v h1 => v = some (.int 1) ∧ Q h1) noX := by
  refine ct_ofH (by decide) (by decide +kernel) (Nat.le_of_ble_eq_true rfl) ?_
  show G E m_LW_worstWeight 0 [(0, .ref x), (1, .int y0), (2, .ref out)] [] h 11 156 _ noX
  refine g_less hk hn ?_
  show G E m_LW_worstWeight 0 [(0, .ref x), (1, .int y0), (2, .ref out)] [] h kz nz _ noX
  rw [← Nat.zero_add kz, ← Nat.zero_add nz]
  refine g_aload_n (pc := 0) d_LW_worstWeight_0 rfl 2 rfl ?_
  refine g_iconst (pc := 1) (v := 0) d_LW_worstWeight_1 (by decide) ?_
  refine g_aload_n (pc := 2) d_LW_worstWeight_2 rfl 0 rfl ?_
  refine g_iload_n (pc := 3) d_LW_worstWeight_3 rfl 1 rfl ?_
  refine g_callVH (k := 0) (n := 0) (pc := 4) (ci := 0) (As := [.int _]) d_LW_worstWeight_4 mv_HS_worstWeight st_LW_worstWeight_95 rfl rfl (by decide) k_x rfl rfl (Nat.le_of_ble_eq_true rfl) hc (fun C h1 z => ?_) (fun _ _ z => z.elim)
  obtain ⟨rfl, q⟩ := z
  refine ⟨_, hc_LW_worstWeight_1, fun q => ?_⟩
  refine g_astore_n (pc := 12) (lv' := [(3, .ref q), (0, .ref x), (1, .int y0), (2, .ref out)]) d_LW_worstWeight_12 rfl (by decide) rfl ?_
  refine g_iconst (pc := 13) (v := 1) d_LW_worstWeight_13 (by decide) ?_
  refine g_iret (pc := 14) d_LW_worstWeight_14 rfl ?_
  exact ⟨rfl, by assumption⟩
theorem ws_stampedUntil {E : En} {h : Hp} {x out kz nz : Nat} {y0 : Int32} {Q : Int32 → Hp → Prop} (k_x : hK h x = 1) (hq : ∀ z h9, Q z h9 → hK h9 out = 24 ∧ hL h9 out = 1) (hc : CT E m_HS_stampedUntil [.ref x, .int y0] h kz nz (fun v h1 => ∃ z, v = some (.int z) ∧ Q z h1) noX) (hk : kz ≤ 11) (hn : nz ≤ 156) : CT E m_LW_stampedUntil [.ref x, .int y0, .ref out] h 11 156 (fun v h1 => v = some (.int 0) ∧ ∃ z h9, Q z h9 ∧ h1 = sJ h9 out 0 z.toInt64) noX := by
  refine ct_ofH (by decide) (by decide +kernel) (Nat.le_of_ble_eq_true rfl) ?_
  show G E m_LW_stampedUntil 0 [(0, .ref x), (1, .int y0), (2, .ref out)] [] h 11 156 _ noX
  refine g_less hk hn ?_
  show G E m_LW_stampedUntil 0 [(0, .ref x), (1, .int y0), (2, .ref out)] [] h kz nz _ noX
  rw [← Nat.zero_add kz, ← Nat.zero_add nz]
  refine g_aload_n (pc := 0) d_LW_stampedUntil_0 rfl 2 rfl ?_
  refine g_iconst (pc := 1) (v := 0) d_LW_stampedUntil_1 (by decide) ?_
  refine g_aload_n (pc := 2) d_LW_stampedUntil_2 rfl 0 rfl ?_
  refine g_iload_n (pc := 3) d_LW_stampedUntil_3 rfl 1 rfl ?_
  refine g_callVH (k := 0) (n := 0) (pc := 4) (ci := 0) (As := [.int _]) d_LW_stampedUntil_4 mv_HS_stampedUntil st_LW_stampedUntil_98 rfl rfl (by decide) k_x rfl rfl (Nat.le_of_ble_eq_true rfl) hc (fun _ _ z => z.elim) (fun v h1 z => ?_)
  obtain ⟨z, rfl, q⟩ := z
  obtain ⟨k_out, l_out⟩ := hq z h1 q
  refine g_i2l (pc := 7) d_LW_stampedUntil_7 ?_
  refine g_lastore (pc := 8) d_LW_stampedUntil_8 k_out (by rw [l_out]; exact vp_in_nI (n := 0) (N := 1) (by decide) (by decide)) ?_
  refine g_goto (pc := 9) (tgt := 15) d_LW_stampedUntil_9 (by decide) ?_
  refine g_iconst (pc := 15) (v := 0) d_LW_stampedUntil_15 (by decide) ?_
  refine g_iret (pc := 16) d_LW_stampedUntil_16 rfl ?_
  exact ⟨rfl, z, h1, q, rfl⟩
theorem we_stampedUntil_1 {E : En} {h : Hp} {x out kz nz : Nat} {y0 : Int32} {Q : Hp → Prop} (k_x : hK h x = 1) (hc : CT E m_HS_stampedUntil [.ref x, .int y0] h kz nz (fun _ _ => False) (fun C h1 => C = "java/lang/IndexOutOfBoundsException" ∧ Q h1)) (hk : kz ≤ 11) (hn : nz ≤ 156) : CT E m_LW_stampedUntil [.ref x, .int y0, .ref out] h 11 156 (fun v h1 => v = some (.int 1) ∧ Q h1) noX := by
  refine ct_ofH (by decide) (by decide +kernel) (Nat.le_of_ble_eq_true rfl) ?_
  show G E m_LW_stampedUntil 0 [(0, .ref x), (1, .int y0), (2, .ref out)] [] h 11 156 _ noX
  refine g_less hk hn ?_
  show G E m_LW_stampedUntil 0 [(0, .ref x), (1, .int y0), (2, .ref out)] [] h kz nz _ noX
  rw [← Nat.zero_add kz, ← Nat.zero_add nz]
  refine g_aload_n (pc := 0) d_LW_stampedUntil_0 rfl 2 rfl ?_
  refine g_iconst (pc := 1) (v := 0) d_LW_stampedUntil_1 (by decide) ?_
  refine g_aload_n (pc := 2) d_LW_stampedUntil_2 rfl 0 rfl ?_
  refine g_iload_n (pc := 3) d_LW_stampedUntil_3 rfl 1 rfl ?_
  refine g_callVH (k := 0) (n := 0) (pc := 4) (ci := 0) (As := [.int _]) d_LW_stampedUntil_4 mv_HS_stampedUntil st_LW_stampedUntil_98 rfl rfl (by decide) k_x rfl rfl (Nat.le_of_ble_eq_true rfl) hc (fun C h1 z => ?_) (fun _ _ z => z.elim)
  obtain ⟨rfl, q⟩ := z
  refine ⟨_, hc_LW_stampedUntil_1, fun q => ?_⟩
  refine g_astore_n (pc := 12) (lv' := [(3, .ref q), (0, .ref x), (1, .int y0), (2, .ref out)]) d_LW_stampedUntil_12 rfl (by decide) rfl ?_
  refine g_iconst (pc := 13) (v := 1) d_LW_stampedUntil_13 (by decide) ?_
  refine g_iret (pc := 14) d_LW_stampedUntil_14 rfl ?_
  exact ⟨rfl, by assumption⟩
theorem ws_isStamped {E : En} {h : Hp} {x out kz nz : Nat} {y0 : Int32} {Q : Int32 → Hp → Prop} (k_x : hK h x = 1) (hq : ∀ z h9, Q z h9 → hK h9 out = 24 ∧ hL h9 out = 1) (hc : CT E m_HS_isStamped [.ref x, .int y0] h kz nz (fun v h1 => ∃ z, v = some (.int z) ∧ Q z h1) noX) (hk : kz ≤ 11) (hn : nz ≤ 156) : CT E m_LW_isStamped [.ref x, .int y0, .ref out] h 11 156 (fun v h1 => v = some (.int 0) ∧ ∃ z h9, Q z h9 ∧ h1 = sJ h9 out 0 (if z = 0 then 0 else 1)) noX := by
  refine ct_ofH (by decide) (by decide +kernel) (Nat.le_of_ble_eq_true rfl) ?_
  show G E m_LW_isStamped 0 [(0, .ref x), (1, .int y0), (2, .ref out)] [] h 11 156 _ noX
  refine g_less hk hn ?_
  show G E m_LW_isStamped 0 [(0, .ref x), (1, .int y0), (2, .ref out)] [] h kz nz _ noX
  rw [← Nat.zero_add kz, ← Nat.zero_add nz]
  refine g_aload_n (pc := 0) d_LW_isStamped_0 rfl 2 rfl ?_
  refine g_iconst (pc := 1) (v := 0) d_LW_isStamped_1 (by decide) ?_
  refine g_aload_n (pc := 2) d_LW_isStamped_2 rfl 0 rfl ?_
  refine g_iload_n (pc := 3) d_LW_isStamped_3 rfl 1 rfl ?_
  refine g_callVH (k := 0) (n := 0) (pc := 4) (ci := 0) (As := [.int _]) d_LW_isStamped_4 mv_HS_isStamped st_LW_isStamped_101 rfl rfl (by decide) k_x rfl rfl (Nat.le_of_ble_eq_true rfl) hc (fun _ _ z => z.elim) (fun v h1 z => ?_)
  obtain ⟨z, rfl, q⟩ := z
  obtain ⟨k_out, l_out⟩ := hq z h1 q
  refine g_if_eq (pc := 7) (tgt := 14) d_LW_isStamped_7 (by decide) (fun c => ?_) (fun c => ?_)
  · refine g_lconst (pc := 14) (v := 0) d_LW_isStamped_14 (by decide) ?_
    refine g_lastore (pc := 15) d_LW_isStamped_15 k_out (by rw [l_out]; exact vp_in_nI (n := 0) (N := 1) (by decide) (by decide)) ?_
    refine g_goto (pc := 16) (tgt := 22) d_LW_isStamped_16 (by decide) ?_
    refine g_iconst (pc := 22) (v := 0) d_LW_isStamped_22 (by decide) ?_
    refine g_iret (pc := 23) d_LW_isStamped_23 rfl ?_
    exact ⟨rfl, z, h1, q, by rw [if_pos c]; rfl⟩
  · refine g_lconst (pc := 10) (v := 1) d_LW_isStamped_10 (by decide) ?_
    refine g_goto (pc := 11) (tgt := 15) d_LW_isStamped_11 (by decide) ?_
    refine g_lastore (pc := 15) d_LW_isStamped_15 k_out (by rw [l_out]; exact vp_in_nI (n := 0) (N := 1) (by decide) (by decide)) ?_
    refine g_goto (pc := 16) (tgt := 22) d_LW_isStamped_16 (by decide) ?_
    refine g_iconst (pc := 22) (v := 0) d_LW_isStamped_22 (by decide) ?_
    refine g_iret (pc := 23) d_LW_isStamped_23 rfl ?_
    exact ⟨rfl, z, h1, q, by rw [if_neg c]; rfl⟩
theorem we_isStamped_1 {E : En} {h : Hp} {x out kz nz : Nat} {y0 : Int32} {Q : Hp → Prop} (k_x : hK h x = 1) (hc : CT E m_HS_isStamped [.ref x, .int y0] h kz nz (fun _ _ => False) (fun C h1 => C = "java/lang/IndexOutOfBoundsException" ∧ Q h1)) (hk : kz ≤ 11) (hn : nz ≤ 156) : CT E m_LW_isStamped [.ref x, .int y0, .ref out] h 11 156 (fun v h1 => v = some (.int 1) ∧ Q h1) noX := by
  refine ct_ofH (by decide) (by decide +kernel) (Nat.le_of_ble_eq_true rfl) ?_
  show G E m_LW_isStamped 0 [(0, .ref x), (1, .int y0), (2, .ref out)] [] h 11 156 _ noX
  refine g_less hk hn ?_
  show G E m_LW_isStamped 0 [(0, .ref x), (1, .int y0), (2, .ref out)] [] h kz nz _ noX
  rw [← Nat.zero_add kz, ← Nat.zero_add nz]
  refine g_aload_n (pc := 0) d_LW_isStamped_0 rfl 2 rfl ?_
  refine g_iconst (pc := 1) (v := 0) d_LW_isStamped_1 (by decide) ?_
  refine g_aload_n (pc := 2) d_LW_isStamped_2 rfl 0 rfl ?_
  refine g_iload_n (pc := 3) d_LW_isStamped_3 rfl 1 rfl ?_
  refine g_callVH (k := 0) (n := 0) (pc := 4) (ci := 0) (As := [.int _]) d_LW_isStamped_4 mv_HS_isStamped st_LW_isStamped_101 rfl rfl (by decide) k_x rfl rfl (Nat.le_of_ble_eq_true rfl) hc (fun C h1 z => ?_) (fun _ _ z => z.elim)
  obtain ⟨rfl, q⟩ := z
  refine ⟨_, hc_LW_isStamped_1, fun q => ?_⟩
  refine g_astore_n (pc := 19) (lv' := [(3, .ref q), (0, .ref x), (1, .int y0), (2, .ref out)]) d_LW_isStamped_19 rfl (by decide) rfl ?_
  refine g_iconst (pc := 20) (v := 1) d_LW_isStamped_20 (by decide) ?_
  refine g_iret (pc := 21) d_LW_isStamped_21 rfl ?_
  exact ⟨rfl, by assumption⟩
theorem ws_isOpen {E : En} {h : Hp} {x out kz nz : Nat} {y0 : Int32} {Q : Int32 → Hp → Prop} (k_x : hK h x = 1) (hq : ∀ z h9, Q z h9 → hK h9 out = 24 ∧ hL h9 out = 1) (hc : CT E m_HS_isOpen [.ref x, .int y0] h kz nz (fun v h1 => ∃ z, v = some (.int z) ∧ Q z h1) noX) (hk : kz ≤ 11) (hn : nz ≤ 156) : CT E m_LW_isOpen [.ref x, .int y0, .ref out] h 11 156 (fun v h1 => v = some (.int 0) ∧ ∃ z h9, Q z h9 ∧ h1 = sJ h9 out 0 (if z = 0 then 0 else 1)) noX := by
  refine ct_ofH (by decide) (by decide +kernel) (Nat.le_of_ble_eq_true rfl) ?_
  show G E m_LW_isOpen 0 [(0, .ref x), (1, .int y0), (2, .ref out)] [] h 11 156 _ noX
  refine g_less hk hn ?_
  show G E m_LW_isOpen 0 [(0, .ref x), (1, .int y0), (2, .ref out)] [] h kz nz _ noX
  rw [← Nat.zero_add kz, ← Nat.zero_add nz]
  refine g_aload_n (pc := 0) d_LW_isOpen_0 rfl 2 rfl ?_
  refine g_iconst (pc := 1) (v := 0) d_LW_isOpen_1 (by decide) ?_
  refine g_aload_n (pc := 2) d_LW_isOpen_2 rfl 0 rfl ?_
  refine g_iload_n (pc := 3) d_LW_isOpen_3 rfl 1 rfl ?_
  refine g_callVH (k := 0) (n := 0) (pc := 4) (ci := 0) (As := [.int _]) d_LW_isOpen_4 mv_HS_isOpen st_LW_isOpen_104 rfl rfl (by decide) k_x rfl rfl (Nat.le_of_ble_eq_true rfl) hc (fun _ _ z => z.elim) (fun v h1 z => ?_)
  obtain ⟨z, rfl, q⟩ := z
  obtain ⟨k_out, l_out⟩ := hq z h1 q
  refine g_if_eq (pc := 7) (tgt := 14) d_LW_isOpen_7 (by decide) (fun c => ?_) (fun c => ?_)
  · refine g_lconst (pc := 14) (v := 0) d_LW_isOpen_14 (by decide) ?_
    refine g_lastore (pc := 15) d_LW_isOpen_15 k_out (by rw [l_out]; exact vp_in_nI (n := 0) (N := 1) (by decide) (by decide)) ?_
    refine g_goto (pc := 16) (tgt := 22) d_LW_isOpen_16 (by decide) ?_
    refine g_iconst (pc := 22) (v := 0) d_LW_isOpen_22 (by decide) ?_
    refine g_iret (pc := 23) d_LW_isOpen_23 rfl ?_
    exact ⟨rfl, z, h1, q, by rw [if_pos c]; rfl⟩
  · refine g_lconst (pc := 10) (v := 1) d_LW_isOpen_10 (by decide) ?_
    refine g_goto (pc := 11) (tgt := 15) d_LW_isOpen_11 (by decide) ?_
    refine g_lastore (pc := 15) d_LW_isOpen_15 k_out (by rw [l_out]; exact vp_in_nI (n := 0) (N := 1) (by decide) (by decide)) ?_
    refine g_goto (pc := 16) (tgt := 22) d_LW_isOpen_16 (by decide) ?_
    refine g_iconst (pc := 22) (v := 0) d_LW_isOpen_22 (by decide) ?_
    refine g_iret (pc := 23) d_LW_isOpen_23 rfl ?_
    exact ⟨rfl, z, h1, q, by rw [if_neg c]; rfl⟩
theorem we_isOpen_1 {E : En} {h : Hp} {x out kz nz : Nat} {y0 : Int32} {Q : Hp → Prop} (k_x : hK h x = 1) (hc : CT E m_HS_isOpen [.ref x, .int y0] h kz nz (fun _ _ => False) (fun C h1 => C = "java/lang/IndexOutOfBoundsException" ∧ Q h1)) (hk : kz ≤ 11) (hn : nz ≤ 156) : CT E m_LW_isOpen [.ref x, .int y0, .ref out] h 11 156 (fun v h1 => v = some (.int 1) ∧ Q h1) noX := by
  refine ct_ofH (by decide) (by decide +kernel) (Nat.le_of_ble_eq_true rfl) ?_
  show G E m_LW_isOpen 0 [(0, .ref x), (1, .int y0), (2, .ref out)] [] h 11 156 _ noX
  refine g_less hk hn ?_
  show G E m_LW_isOpen 0 [(0, .ref x), (1, .int y0), (2, .ref out)] [] h kz nz _ noX
  rw [← Nat.zero_add kz, ← Nat.zero_add nz]
  refine g_aload_n (pc := 0) d_LW_isOpen_0 rfl 2 rfl ?_
  refine g_iconst (pc := 1) (v := 0) d_LW_isOpen_1 (by decide) ?_
  refine g_aload_n (pc := 2) d_LW_isOpen_2 rfl 0 rfl ?_
  refine g_iload_n (pc := 3) d_LW_isOpen_3 rfl 1 rfl ?_
  refine g_callVH (k := 0) (n := 0) (pc := 4) (ci := 0) (As := [.int _]) d_LW_isOpen_4 mv_HS_isOpen st_LW_isOpen_104 rfl rfl (by decide) k_x rfl rfl (Nat.le_of_ble_eq_true rfl) hc (fun C h1 z => ?_) (fun _ _ z => z.elim)
  obtain ⟨rfl, q⟩ := z
  refine ⟨_, hc_LW_isOpen_1, fun q => ?_⟩
  refine g_astore_n (pc := 19) (lv' := [(3, .ref q), (0, .ref x), (1, .int y0), (2, .ref out)]) d_LW_isOpen_19 rfl (by decide) rfl ?_
  refine g_iconst (pc := 20) (v := 1) d_LW_isOpen_20 (by decide) ?_
  refine g_iret (pc := 21) d_LW_isOpen_21 rfl ?_
  exact ⟨rfl, by assumption⟩
theorem ws_purse {E : En} {h : Hp} {x out kz nz : Nat} {y0 : Int32} {Q : Int32 → Hp → Prop} (k_x : hK h x = 1) (hq : ∀ z h9, Q z h9 → hK h9 out = 24 ∧ hL h9 out = 1) (hc : CT E m_HS_purse [.ref x, .int y0] h kz nz (fun v h1 => ∃ z, v = some (.int z) ∧ Q z h1) noX) (hk : kz ≤ 11) (hn : nz ≤ 156) : CT E m_LW_purse [.ref x, .int y0, .ref out] h 11 156 (fun v h1 => v = some (.int 0) ∧ ∃ z h9, Q z h9 ∧ h1 = sJ h9 out 0 z.toInt64) noX := by
  refine ct_ofH (by decide) (by decide +kernel) (Nat.le_of_ble_eq_true rfl) ?_
  show G E m_LW_purse 0 [(0, .ref x), (1, .int y0), (2, .ref out)] [] h 11 156 _ noX
  refine g_less hk hn ?_
  show G E m_LW_purse 0 [(0, .ref x), (1, .int y0), (2, .ref out)] [] h kz nz _ noX
  rw [← Nat.zero_add kz, ← Nat.zero_add nz]
  refine g_aload_n (pc := 0) d_LW_purse_0 rfl 2 rfl ?_
  refine g_iconst (pc := 1) (v := 0) d_LW_purse_1 (by decide) ?_
  refine g_aload_n (pc := 2) d_LW_purse_2 rfl 0 rfl ?_
  refine g_iload_n (pc := 3) d_LW_purse_3 rfl 1 rfl ?_
  refine g_callVH (k := 0) (n := 0) (pc := 4) (ci := 0) (As := [.int _]) d_LW_purse_4 mv_HS_purse st_LW_purse_107 rfl rfl (by decide) k_x rfl rfl (Nat.le_of_ble_eq_true rfl) hc (fun _ _ z => z.elim) (fun v h1 z => ?_)
  obtain ⟨z, rfl, q⟩ := z
  obtain ⟨k_out, l_out⟩ := hq z h1 q
  refine g_i2l (pc := 7) d_LW_purse_7 ?_
  refine g_lastore (pc := 8) d_LW_purse_8 k_out (by rw [l_out]; exact vp_in_nI (n := 0) (N := 1) (by decide) (by decide)) ?_
  refine g_goto (pc := 9) (tgt := 15) d_LW_purse_9 (by decide) ?_
  refine g_iconst (pc := 15) (v := 0) d_LW_purse_15 (by decide) ?_
  refine g_iret (pc := 16) d_LW_purse_16 rfl ?_
  exact ⟨rfl, z, h1, q, rfl⟩
theorem we_purse_1 {E : En} {h : Hp} {x out kz nz : Nat} {y0 : Int32} {Q : Hp → Prop} (k_x : hK h x = 1) (hc : CT E m_HS_purse [.ref x, .int y0] h kz nz (fun _ _ => False) (fun C h1 => C = "java/lang/IndexOutOfBoundsException" ∧ Q h1)) (hk : kz ≤ 11) (hn : nz ≤ 156) : CT E m_LW_purse [.ref x, .int y0, .ref out] h 11 156 (fun v h1 => v = some (.int 1) ∧ Q h1) noX := by
  refine ct_ofH (by decide) (by decide +kernel) (Nat.le_of_ble_eq_true rfl) ?_
  show G E m_LW_purse 0 [(0, .ref x), (1, .int y0), (2, .ref out)] [] h 11 156 _ noX
  refine g_less hk hn ?_
  show G E m_LW_purse 0 [(0, .ref x), (1, .int y0), (2, .ref out)] [] h kz nz _ noX
  rw [← Nat.zero_add kz, ← Nat.zero_add nz]
  refine g_aload_n (pc := 0) d_LW_purse_0 rfl 2 rfl ?_
  refine g_iconst (pc := 1) (v := 0) d_LW_purse_1 (by decide) ?_
  refine g_aload_n (pc := 2) d_LW_purse_2 rfl 0 rfl ?_
  refine g_iload_n (pc := 3) d_LW_purse_3 rfl 1 rfl ?_
  refine g_callVH (k := 0) (n := 0) (pc := 4) (ci := 0) (As := [.int _]) d_LW_purse_4 mv_HS_purse st_LW_purse_107 rfl rfl (by decide) k_x rfl rfl (Nat.le_of_ble_eq_true rfl) hc (fun C h1 z => ?_) (fun _ _ z => z.elim)
  obtain ⟨rfl, q⟩ := z
  refine ⟨_, hc_LW_purse_1, fun q => ?_⟩
  refine g_astore_n (pc := 12) (lv' := [(3, .ref q), (0, .ref x), (1, .int y0), (2, .ref out)]) d_LW_purse_12 rfl (by decide) rfl ?_
  refine g_iconst (pc := 13) (v := 1) d_LW_purse_13 (by decide) ?_
  refine g_iret (pc := 14) d_LW_purse_14 rfl ?_
  exact ⟨rfl, by assumption⟩
theorem ws_thumb {E : En} {h : Hp} {x out kz nz : Nat} {y0 : Int32} {Q : Int32 → Hp → Prop} (k_x : hK h x = 1) (hq : ∀ z h9, Q z h9 → hK h9 out = 24 ∧ hL h9 out = 1) (hc : CT E m_HS_thumb [.ref x, .int y0] h kz nz (fun v h1 => ∃ z, v = some (.int z) ∧ Q z h1) noX) (hk : kz ≤ 11) (hn : nz ≤ 156) : CT E m_LW_thumb [.ref x, .int y0, .ref out] h 11 156 (fun v h1 => v = some (.int 0) ∧ ∃ z h9, Q z h9 ∧ h1 = sJ h9 out 0 z.toInt64) noX := by
  refine ct_ofH (by decide) (by decide +kernel) (Nat.le_of_ble_eq_true rfl) ?_
  show G E m_LW_thumb 0 [(0, .ref x), (1, .int y0), (2, .ref out)] [] h 11 156 _ noX
  refine g_less hk hn ?_
  show G E m_LW_thumb 0 [(0, .ref x), (1, .int y0), (2, .ref out)] [] h kz nz _ noX
  rw [← Nat.zero_add kz, ← Nat.zero_add nz]
  refine g_aload_n (pc := 0) d_LW_thumb_0 rfl 2 rfl ?_
  refine g_iconst (pc := 1) (v := 0) d_LW_thumb_1 (by decide) ?_
  refine g_aload_n (pc := 2) d_LW_thumb_2 rfl 0 rfl ?_
  refine g_iload_n (pc := 3) d_LW_thumb_3 rfl 1 rfl ?_
  refine g_callVH (k := 0) (n := 0) (pc := 4) (ci := 0) (As := [.int _]) d_LW_thumb_4 mv_HS_thumb st_LW_thumb_110 rfl rfl (by decide) k_x rfl rfl (Nat.le_of_ble_eq_true rfl) hc (fun _ _ z => z.elim) (fun v h1 z => ?_)
  obtain ⟨z, rfl, q⟩ := z
  obtain ⟨k_out, l_out⟩ := hq z h1 q
  refine g_i2l (pc := 7) d_LW_thumb_7 ?_
  refine g_lastore (pc := 8) d_LW_thumb_8 k_out (by rw [l_out]; exact vp_in_nI (n := 0) (N := 1) (by decide) (by decide)) ?_
  refine g_goto (pc := 9) (tgt := 15) d_LW_thumb_9 (by decide) ?_
  refine g_iconst (pc := 15) (v := 0) d_LW_thumb_15 (by decide) ?_
  refine g_iret (pc := 16) d_LW_thumb_16 rfl ?_
  exact ⟨rfl, z, h1, q, rfl⟩
theorem we_thumb_1 {E : En} {h : Hp} {x out kz nz : Nat} {y0 : Int32} {Q : Hp → Prop} (k_x : hK h x = 1) (hc : CT E m_HS_thumb [.ref x, .int y0] h kz nz (fun _ _ => False) (fun C h1 => C = "java/lang/IndexOutOfBoundsException" ∧ Q h1)) (hk : kz ≤ 11) (hn : nz ≤ 156) : CT E m_LW_thumb [.ref x, .int y0, .ref out] h 11 156 (fun v h1 => v = some (.int 1) ∧ Q h1) noX := by
  refine ct_ofH (by decide) (by decide +kernel) (Nat.le_of_ble_eq_true rfl) ?_
  show G E m_LW_thumb 0 [(0, .ref x), (1, .int y0), (2, .ref out)] [] h 11 156 _ noX
  refine g_less hk hn ?_
  show G E m_LW_thumb 0 [(0, .ref x), (1, .int y0), (2, .ref out)] [] h kz nz _ noX
  rw [← Nat.zero_add kz, ← Nat.zero_add nz]
  refine g_aload_n (pc := 0) d_LW_thumb_0 rfl 2 rfl ?_
  refine g_iconst (pc := 1) (v := 0) d_LW_thumb_1 (by decide) ?_
  refine g_aload_n (pc := 2) d_LW_thumb_2 rfl 0 rfl ?_
  refine g_iload_n (pc := 3) d_LW_thumb_3 rfl 1 rfl ?_
  refine g_callVH (k := 0) (n := 0) (pc := 4) (ci := 0) (As := [.int _]) d_LW_thumb_4 mv_HS_thumb st_LW_thumb_110 rfl rfl (by decide) k_x rfl rfl (Nat.le_of_ble_eq_true rfl) hc (fun C h1 z => ?_) (fun _ _ z => z.elim)
  obtain ⟨rfl, q⟩ := z
  refine ⟨_, hc_LW_thumb_1, fun q => ?_⟩
  refine g_astore_n (pc := 12) (lv' := [(3, .ref q), (0, .ref x), (1, .int y0), (2, .ref out)]) d_LW_thumb_12 rfl (by decide) rfl ?_
  refine g_iconst (pc := 13) (v := 1) d_LW_thumb_13 (by decide) ?_
  refine g_iret (pc := 14) d_LW_thumb_14 rfl ?_
  exact ⟨rfl, by assumption⟩
theorem ws_complaints {E : En} {h : Hp} {x out kz nz : Nat} {y0 : Int32} {Q : Int32 → Hp → Prop} (k_x : hK h x = 1) (hq : ∀ z h9, Q z h9 → hK h9 out = 24 ∧ hL h9 out = 1) (hc : CT E m_HS_complaints [.ref x, .int y0] h kz nz (fun v h1 => ∃ z, v = some (.int z) ∧ Q z h1) noX) (hk : kz ≤ 11) (hn : nz ≤ 156) : CT E m_LW_complaints [.ref x, .int y0, .ref out] h 11 156 (fun v h1 => v = some (.int 0) ∧ ∃ z h9, Q z h9 ∧ h1 = sJ h9 out 0 z.toInt64) noX := by
  refine ct_ofH (by decide) (by decide +kernel) (Nat.le_of_ble_eq_true rfl) ?_
  show G E m_LW_complaints 0 [(0, .ref x), (1, .int y0), (2, .ref out)] [] h 11 156 _ noX
  refine g_less hk hn ?_
  show G E m_LW_complaints 0 [(0, .ref x), (1, .int y0), (2, .ref out)] [] h kz nz _ noX
  rw [← Nat.zero_add kz, ← Nat.zero_add nz]
  refine g_aload_n (pc := 0) d_LW_complaints_0 rfl 2 rfl ?_
  refine g_iconst (pc := 1) (v := 0) d_LW_complaints_1 (by decide) ?_
  refine g_aload_n (pc := 2) d_LW_complaints_2 rfl 0 rfl ?_
  refine g_iload_n (pc := 3) d_LW_complaints_3 rfl 1 rfl ?_
  refine g_callVH (k := 0) (n := 0) (pc := 4) (ci := 0) (As := [.int _]) d_LW_complaints_4 mv_HS_complaints st_LW_complaints_113 rfl rfl (by decide) k_x rfl rfl (Nat.le_of_ble_eq_true rfl) hc (fun _ _ z => z.elim) (fun v h1 z => ?_)
  obtain ⟨z, rfl, q⟩ := z
  obtain ⟨k_out, l_out⟩ := hq z h1 q
  refine g_i2l (pc := 7) d_LW_complaints_7 ?_
  refine g_lastore (pc := 8) d_LW_complaints_8 k_out (by rw [l_out]; exact vp_in_nI (n := 0) (N := 1) (by decide) (by decide)) ?_
  refine g_goto (pc := 9) (tgt := 15) d_LW_complaints_9 (by decide) ?_
  refine g_iconst (pc := 15) (v := 0) d_LW_complaints_15 (by decide) ?_
  refine g_iret (pc := 16) d_LW_complaints_16 rfl ?_
  exact ⟨rfl, z, h1, q, rfl⟩
theorem we_complaints_1 {E : En} {h : Hp} {x out kz nz : Nat} {y0 : Int32} {Q : Hp → Prop} (k_x : hK h x = 1) (hc : CT E m_HS_complaints [.ref x, .int y0] h kz nz (fun _ _ => False) (fun C h1 => C = "java/lang/IndexOutOfBoundsException" ∧ Q h1)) (hk : kz ≤ 11) (hn : nz ≤ 156) : CT E m_LW_complaints [.ref x, .int y0, .ref out] h 11 156 (fun v h1 => v = some (.int 1) ∧ Q h1) noX := by
  refine ct_ofH (by decide) (by decide +kernel) (Nat.le_of_ble_eq_true rfl) ?_
  show G E m_LW_complaints 0 [(0, .ref x), (1, .int y0), (2, .ref out)] [] h 11 156 _ noX
  refine g_less hk hn ?_
  show G E m_LW_complaints 0 [(0, .ref x), (1, .int y0), (2, .ref out)] [] h kz nz _ noX
  rw [← Nat.zero_add kz, ← Nat.zero_add nz]
  refine g_aload_n (pc := 0) d_LW_complaints_0 rfl 2 rfl ?_
  refine g_iconst (pc := 1) (v := 0) d_LW_complaints_1 (by decide) ?_
  refine g_aload_n (pc := 2) d_LW_complaints_2 rfl 0 rfl ?_
  refine g_iload_n (pc := 3) d_LW_complaints_3 rfl 1 rfl ?_
  refine g_callVH (k := 0) (n := 0) (pc := 4) (ci := 0) (As := [.int _]) d_LW_complaints_4 mv_HS_complaints st_LW_complaints_113 rfl rfl (by decide) k_x rfl rfl (Nat.le_of_ble_eq_true rfl) hc (fun C h1 z => ?_) (fun _ _ z => z.elim)
  obtain ⟨rfl, q⟩ := z
  refine ⟨_, hc_LW_complaints_1, fun q => ?_⟩
  refine g_astore_n (pc := 12) (lv' := [(3, .ref q), (0, .ref x), (1, .int y0), (2, .ref out)]) d_LW_complaints_12 rfl (by decide) rfl ?_
  refine g_iconst (pc := 13) (v := 1) d_LW_complaints_13 (by decide) ?_
  refine g_iret (pc := 14) d_LW_complaints_14 rfl ?_
  exact ⟨rfl, by assumption⟩
theorem ws_failures {E : En} {h : Hp} {x out kz nz : Nat} {y0 : Int32} {Q : Int32 → Hp → Prop} (k_x : hK h x = 1) (hq : ∀ z h9, Q z h9 → hK h9 out = 24 ∧ hL h9 out = 1) (hc : CT E m_HS_failures [.ref x, .int y0] h kz nz (fun v h1 => ∃ z, v = some (.int z) ∧ Q z h1) noX) (hk : kz ≤ 11) (hn : nz ≤ 156) : CT E m_LW_failures [.ref x, .int y0, .ref out] h 11 156 (fun v h1 => v = some (.int 0) ∧ ∃ z h9, Q z h9 ∧ h1 = sJ h9 out 0 z.toInt64) noX := by
  refine ct_ofH (by decide) (by decide +kernel) (Nat.le_of_ble_eq_true rfl) ?_
  show G E m_LW_failures 0 [(0, .ref x), (1, .int y0), (2, .ref out)] [] h 11 156 _ noX
  refine g_less hk hn ?_
  show G E m_LW_failures 0 [(0, .ref x), (1, .int y0), (2, .ref out)] [] h kz nz _ noX
  rw [← Nat.zero_add kz, ← Nat.zero_add nz]
  refine g_aload_n (pc := 0) d_LW_failures_0 rfl 2 rfl ?_
  refine g_iconst (pc := 1) (v := 0) d_LW_failures_1 (by decide) ?_
  refine g_aload_n (pc := 2) d_LW_failures_2 rfl 0 rfl ?_
  refine g_iload_n (pc := 3) d_LW_failures_3 rfl 1 rfl ?_
  refine g_callVH (k := 0) (n := 0) (pc := 4) (ci := 0) (As := [.int _]) d_LW_failures_4 mv_HS_failures st_LW_failures_116 rfl rfl (by decide) k_x rfl rfl (Nat.le_of_ble_eq_true rfl) hc (fun _ _ z => z.elim) (fun v h1 z => ?_)
  obtain ⟨z, rfl, q⟩ := z
  obtain ⟨k_out, l_out⟩ := hq z h1 q
  refine g_i2l (pc := 7) d_LW_failures_7 ?_
  refine g_lastore (pc := 8) d_LW_failures_8 k_out (by rw [l_out]; exact vp_in_nI (n := 0) (N := 1) (by decide) (by decide)) ?_
  refine g_goto (pc := 9) (tgt := 15) d_LW_failures_9 (by decide) ?_
  refine g_iconst (pc := 15) (v := 0) d_LW_failures_15 (by decide) ?_
  refine g_iret (pc := 16) d_LW_failures_16 rfl ?_
  exact ⟨rfl, z, h1, q, rfl⟩
theorem we_failures_1 {E : En} {h : Hp} {x out kz nz : Nat} {y0 : Int32} {Q : Hp → Prop} (k_x : hK h x = 1) (hc : CT E m_HS_failures [.ref x, .int y0] h kz nz (fun _ _ => False) (fun C h1 => C = "java/lang/IndexOutOfBoundsException" ∧ Q h1)) (hk : kz ≤ 11) (hn : nz ≤ 156) : CT E m_LW_failures [.ref x, .int y0, .ref out] h 11 156 (fun v h1 => v = some (.int 1) ∧ Q h1) noX := by
  refine ct_ofH (by decide) (by decide +kernel) (Nat.le_of_ble_eq_true rfl) ?_
  show G E m_LW_failures 0 [(0, .ref x), (1, .int y0), (2, .ref out)] [] h 11 156 _ noX
  refine g_less hk hn ?_
  show G E m_LW_failures 0 [(0, .ref x), (1, .int y0), (2, .ref out)] [] h kz nz _ noX
  rw [← Nat.zero_add kz, ← Nat.zero_add nz]
  refine g_aload_n (pc := 0) d_LW_failures_0 rfl 2 rfl ?_
  refine g_iconst (pc := 1) (v := 0) d_LW_failures_1 (by decide) ?_
  refine g_aload_n (pc := 2) d_LW_failures_2 rfl 0 rfl ?_
  refine g_iload_n (pc := 3) d_LW_failures_3 rfl 1 rfl ?_
  refine g_callVH (k := 0) (n := 0) (pc := 4) (ci := 0) (As := [.int _]) d_LW_failures_4 mv_HS_failures st_LW_failures_116 rfl rfl (by decide) k_x rfl rfl (Nat.le_of_ble_eq_true rfl) hc (fun C h1 z => ?_) (fun _ _ z => z.elim)
  obtain ⟨rfl, q⟩ := z
  refine ⟨_, hc_LW_failures_1, fun q => ?_⟩
  refine g_astore_n (pc := 12) (lv' := [(3, .ref q), (0, .ref x), (1, .int y0), (2, .ref out)]) d_LW_failures_12 rfl (by decide) rfl ?_
  refine g_iconst (pc := 13) (v := 1) d_LW_failures_13 (by decide) ?_
  refine g_iret (pc := 14) d_LW_failures_14 rfl ?_
  exact ⟨rfl, by assumption⟩
theorem ws_latestVisit {E : En} {h : Hp} {x out kz nz : Nat} {y0 : Int32} {Q : Int32 → Hp → Prop} (k_x : hK h x = 1) (hq : ∀ z h9, Q z h9 → hK h9 out = 24 ∧ hL h9 out = 1) (hc : CT E m_HS_latestVisit [.ref x, .int y0] h kz nz (fun v h1 => ∃ z, v = some (.int z) ∧ Q z h1) noX) (hk : kz ≤ 11) (hn : nz ≤ 156) : CT E m_LW_latestVisit [.ref x, .int y0, .ref out] h 11 156 (fun v h1 => v = some (.int 0) ∧ ∃ z h9, Q z h9 ∧ h1 = sJ h9 out 0 z.toInt64) noX := by
  refine ct_ofH (by decide) (by decide +kernel) (Nat.le_of_ble_eq_true rfl) ?_
  show G E m_LW_latestVisit 0 [(0, .ref x), (1, .int y0), (2, .ref out)] [] h 11 156 _ noX
  refine g_less hk hn ?_
  show G E m_LW_latestVisit 0 [(0, .ref x), (1, .int y0), (2, .ref out)] [] h kz nz _ noX
  rw [← Nat.zero_add kz, ← Nat.zero_add nz]
  refine g_aload_n (pc := 0) d_LW_latestVisit_0 rfl 2 rfl ?_
  refine g_iconst (pc := 1) (v := 0) d_LW_latestVisit_1 (by decide) ?_
  refine g_aload_n (pc := 2) d_LW_latestVisit_2 rfl 0 rfl ?_
  refine g_iload_n (pc := 3) d_LW_latestVisit_3 rfl 1 rfl ?_
  refine g_callVH (k := 0) (n := 0) (pc := 4) (ci := 0) (As := [.int _]) d_LW_latestVisit_4 mv_HS_latestVisit st_LW_latestVisit_119 rfl rfl (by decide) k_x rfl rfl (Nat.le_of_ble_eq_true rfl) hc (fun _ _ z => z.elim) (fun v h1 z => ?_)
  obtain ⟨z, rfl, q⟩ := z
  obtain ⟨k_out, l_out⟩ := hq z h1 q
  refine g_i2l (pc := 7) d_LW_latestVisit_7 ?_
  refine g_lastore (pc := 8) d_LW_latestVisit_8 k_out (by rw [l_out]; exact vp_in_nI (n := 0) (N := 1) (by decide) (by decide)) ?_
  refine g_goto (pc := 9) (tgt := 15) d_LW_latestVisit_9 (by decide) ?_
  refine g_iconst (pc := 15) (v := 0) d_LW_latestVisit_15 (by decide) ?_
  refine g_iret (pc := 16) d_LW_latestVisit_16 rfl ?_
  exact ⟨rfl, z, h1, q, rfl⟩
theorem we_latestVisit_1 {E : En} {h : Hp} {x out kz nz : Nat} {y0 : Int32} {Q : Hp → Prop} (k_x : hK h x = 1) (hc : CT E m_HS_latestVisit [.ref x, .int y0] h kz nz (fun _ _ => False) (fun C h1 => C = "java/lang/IndexOutOfBoundsException" ∧ Q h1)) (hk : kz ≤ 11) (hn : nz ≤ 156) : CT E m_LW_latestVisit [.ref x, .int y0, .ref out] h 11 156 (fun v h1 => v = some (.int 1) ∧ Q h1) noX := by
  refine ct_ofH (by decide) (by decide +kernel) (Nat.le_of_ble_eq_true rfl) ?_
  show G E m_LW_latestVisit 0 [(0, .ref x), (1, .int y0), (2, .ref out)] [] h 11 156 _ noX
  refine g_less hk hn ?_
  show G E m_LW_latestVisit 0 [(0, .ref x), (1, .int y0), (2, .ref out)] [] h kz nz _ noX
  rw [← Nat.zero_add kz, ← Nat.zero_add nz]
  refine g_aload_n (pc := 0) d_LW_latestVisit_0 rfl 2 rfl ?_
  refine g_iconst (pc := 1) (v := 0) d_LW_latestVisit_1 (by decide) ?_
  refine g_aload_n (pc := 2) d_LW_latestVisit_2 rfl 0 rfl ?_
  refine g_iload_n (pc := 3) d_LW_latestVisit_3 rfl 1 rfl ?_
  refine g_callVH (k := 0) (n := 0) (pc := 4) (ci := 0) (As := [.int _]) d_LW_latestVisit_4 mv_HS_latestVisit st_LW_latestVisit_119 rfl rfl (by decide) k_x rfl rfl (Nat.le_of_ble_eq_true rfl) hc (fun C h1 z => ?_) (fun _ _ z => z.elim)
  obtain ⟨rfl, q⟩ := z
  refine ⟨_, hc_LW_latestVisit_1, fun q => ?_⟩
  refine g_astore_n (pc := 12) (lv' := [(3, .ref q), (0, .ref x), (1, .int y0), (2, .ref out)]) d_LW_latestVisit_12 rfl (by decide) rfl ?_
  refine g_iconst (pc := 13) (v := 1) d_LW_latestVisit_13 (by decide) ?_
  refine g_iret (pc := 14) d_LW_latestVisit_14 rfl ?_
  exact ⟨rfl, by assumption⟩
theorem ws_finesOf {E : En} {h : Hp} {x out kz nz : Nat} {y0 : Int32} {Q : Int32 → Hp → Prop} (k_x : hK h x = 1) (hq : ∀ z h9, Q z h9 → hK h9 out = 24 ∧ hL h9 out = 1) (hc : CT E m_HS_finesOf [.ref x, .int y0] h kz nz (fun v h1 => ∃ z, v = some (.int z) ∧ Q z h1) noX) (hk : kz ≤ 11) (hn : nz ≤ 156) : CT E m_LW_finesOf [.ref x, .int y0, .ref out] h 11 156 (fun v h1 => v = some (.int 0) ∧ ∃ z h9, Q z h9 ∧ h1 = sJ h9 out 0 z.toInt64) noX := by
  refine ct_ofH (by decide) (by decide +kernel) (Nat.le_of_ble_eq_true rfl) ?_
  show G E m_LW_finesOf 0 [(0, .ref x), (1, .int y0), (2, .ref out)] [] h 11 156 _ noX
  refine g_less hk hn ?_
  show G E m_LW_finesOf 0 [(0, .ref x), (1, .int y0), (2, .ref out)] [] h kz nz _ noX
  rw [← Nat.zero_add kz, ← Nat.zero_add nz]
  refine g_aload_n (pc := 0) d_LW_finesOf_0 rfl 2 rfl ?_
  refine g_iconst (pc := 1) (v := 0) d_LW_finesOf_1 (by decide) ?_
  refine g_aload_n (pc := 2) d_LW_finesOf_2 rfl 0 rfl ?_
  refine g_iload_n (pc := 3) d_LW_finesOf_3 rfl 1 rfl ?_
  refine g_callVH (k := 0) (n := 0) (pc := 4) (ci := 0) (As := [.int _]) d_LW_finesOf_4 mv_HS_finesOf st_LW_finesOf_122 rfl rfl (by decide) k_x rfl rfl (Nat.le_of_ble_eq_true rfl) hc (fun _ _ z => z.elim) (fun v h1 z => ?_)
  obtain ⟨z, rfl, q⟩ := z
  obtain ⟨k_out, l_out⟩ := hq z h1 q
  refine g_i2l (pc := 7) d_LW_finesOf_7 ?_
  refine g_lastore (pc := 8) d_LW_finesOf_8 k_out (by rw [l_out]; exact vp_in_nI (n := 0) (N := 1) (by decide) (by decide)) ?_
  refine g_goto (pc := 9) (tgt := 15) d_LW_finesOf_9 (by decide) ?_
  refine g_iconst (pc := 15) (v := 0) d_LW_finesOf_15 (by decide) ?_
  refine g_iret (pc := 16) d_LW_finesOf_16 rfl ?_
  exact ⟨rfl, z, h1, q, rfl⟩
theorem we_finesOf_1 {E : En} {h : Hp} {x out kz nz : Nat} {y0 : Int32} {Q : Hp → Prop} (k_x : hK h x = 1) (hc : CT E m_HS_finesOf [.ref x, .int y0] h kz nz (fun _ _ => False) (fun C h1 => C = "java/lang/IndexOutOfBoundsException" ∧ Q h1)) (hk : kz ≤ 11) (hn : nz ≤ 156) : CT E m_LW_finesOf [.ref x, .int y0, .ref out] h 11 156 (fun v h1 => v = some (.int 1) ∧ Q h1) noX := by
  refine ct_ofH (by decide) (by decide +kernel) (Nat.le_of_ble_eq_true rfl) ?_
  show G E m_LW_finesOf 0 [(0, .ref x), (1, .int y0), (2, .ref out)] [] h 11 156 _ noX
  refine g_less hk hn ?_
  show G E m_LW_finesOf 0 [(0, .ref x), (1, .int y0), (2, .ref out)] [] h kz nz _ noX
  rw [← Nat.zero_add kz, ← Nat.zero_add nz]
  refine g_aload_n (pc := 0) d_LW_finesOf_0 rfl 2 rfl ?_
  refine g_iconst (pc := 1) (v := 0) d_LW_finesOf_1 (by decide) ?_
  refine g_aload_n (pc := 2) d_LW_finesOf_2 rfl 0 rfl ?_
  refine g_iload_n (pc := 3) d_LW_finesOf_3 rfl 1 rfl ?_
  refine g_callVH (k := 0) (n := 0) (pc := 4) (ci := 0) (As := [.int _]) d_LW_finesOf_4 mv_HS_finesOf st_LW_finesOf_122 rfl rfl (by decide) k_x rfl rfl (Nat.le_of_ble_eq_true rfl) hc (fun C h1 z => ?_) (fun _ _ z => z.elim)
  obtain ⟨rfl, q⟩ := z
  refine ⟨_, hc_LW_finesOf_1, fun q => ?_⟩
  refine g_astore_n (pc := 12) (lv' := [(3, .ref q), (0, .ref x), (1, .int y0), (2, .ref out)]) d_LW_finesOf_12 rfl (by decide) rfl ?_
  refine g_iconst (pc := 13) (v := 1) d_LW_finesOf_13 (by decide) ?_
  refine g_iret (pc := 14) d_LW_finesOf_14 rfl ?_
  exact ⟨rfl, by assumption⟩
theorem ws_gainsOf {E : En} {h : Hp} {x out kz nz : Nat} {y0 : Int32} {Q : Int32 → Hp → Prop} (k_x : hK h x = 1) (hq : ∀ z h9, Q z h9 → hK h9 out = 24 ∧ hL h9 out = 1) (hc : CT E m_HS_gainsOf [.ref x, .int y0] h kz nz (fun v h1 => ∃ z, v = some (.int z) ∧ Q z h1) noX) (hk : kz ≤ 11) (hn : nz ≤ 156) : CT E m_LW_gainsOf [.ref x, .int y0, .ref out] h 11 156 (fun v h1 => v = some (.int 0) ∧ ∃ z h9, Q z h9 ∧ h1 = sJ h9 out 0 z.toInt64) noX := by
  refine ct_ofH (by decide) (by decide +kernel) (Nat.le_of_ble_eq_true rfl) ?_
  show G E m_LW_gainsOf 0 [(0, .ref x), (1, .int y0), (2, .ref out)] [] h 11 156 _ noX
  refine g_less hk hn ?_
  show G E m_LW_gainsOf 0 [(0, .ref x), (1, .int y0), (2, .ref out)] [] h kz nz _ noX
  rw [← Nat.zero_add kz, ← Nat.zero_add nz]
  refine g_aload_n (pc := 0) d_LW_gainsOf_0 rfl 2 rfl ?_
  refine g_iconst (pc := 1) (v := 0) d_LW_gainsOf_1 (by decide) ?_
  refine g_aload_n (pc := 2) d_LW_gainsOf_2 rfl 0 rfl ?_
  refine g_iload_n (pc := 3) d_LW_gainsOf_3 rfl 1 rfl ?_
  refine g_callVH (k := 0) (n := 0) (pc := 4) (ci := 0) (As := [.int _]) d_LW_gainsOf_4 mv_HS_gainsOf st_LW_gainsOf_125 rfl rfl (by decide) k_x rfl rfl (Nat.le_of_ble_eq_true rfl) hc (fun _ _ z => z.elim) (fun v h1 z => ?_)
  obtain ⟨z, rfl, q⟩ := z
  obtain ⟨k_out, l_out⟩ := hq z h1 q
  refine g_i2l (pc := 7) d_LW_gainsOf_7 ?_
  refine g_lastore (pc := 8) d_LW_gainsOf_8 k_out (by rw [l_out]; exact vp_in_nI (n := 0) (N := 1) (by decide) (by decide)) ?_
  refine g_goto (pc := 9) (tgt := 15) d_LW_gainsOf_9 (by decide) ?_
  refine g_iconst (pc := 15) (v := 0) d_LW_gainsOf_15 (by decide) ?_
  refine g_iret (pc := 16) d_LW_gainsOf_16 rfl ?_
  exact ⟨rfl, z, h1, q, rfl⟩
theorem we_gainsOf_1 {E : En} {h : Hp} {x out kz nz : Nat} {y0 : Int32} {Q : Hp → Prop} (k_x : hK h x = 1) (hc : CT E m_HS_gainsOf [.ref x, .int y0] h kz nz (fun _ _ => False) (fun C h1 => C = "java/lang/IndexOutOfBoundsException" ∧ Q h1)) (hk : kz ≤ 11) (hn : nz ≤ 156) : CT E m_LW_gainsOf [.ref x, .int y0, .ref out] h 11 156 (fun v h1 => v = some (.int 1) ∧ Q h1) noX := by
  refine ct_ofH (by decide) (by decide +kernel) (Nat.le_of_ble_eq_true rfl) ?_
  show G E m_LW_gainsOf 0 [(0, .ref x), (1, .int y0), (2, .ref out)] [] h 11 156 _ noX
  refine g_less hk hn ?_
  show G E m_LW_gainsOf 0 [(0, .ref x), (1, .int y0), (2, .ref out)] [] h kz nz _ noX
  rw [← Nat.zero_add kz, ← Nat.zero_add nz]
  refine g_aload_n (pc := 0) d_LW_gainsOf_0 rfl 2 rfl ?_
  refine g_iconst (pc := 1) (v := 0) d_LW_gainsOf_1 (by decide) ?_
  refine g_aload_n (pc := 2) d_LW_gainsOf_2 rfl 0 rfl ?_
  refine g_iload_n (pc := 3) d_LW_gainsOf_3 rfl 1 rfl ?_
  refine g_callVH (k := 0) (n := 0) (pc := 4) (ci := 0) (As := [.int _]) d_LW_gainsOf_4 mv_HS_gainsOf st_LW_gainsOf_125 rfl rfl (by decide) k_x rfl rfl (Nat.le_of_ble_eq_true rfl) hc (fun C h1 z => ?_) (fun _ _ z => z.elim)
  obtain ⟨rfl, q⟩ := z
  refine ⟨_, hc_LW_gainsOf_1, fun q => ?_⟩
  refine g_astore_n (pc := 12) (lv' := [(3, .ref q), (0, .ref x), (1, .int y0), (2, .ref out)]) d_LW_gainsOf_12 rfl (by decide) rfl ?_
  refine g_iconst (pc := 13) (v := 1) d_LW_gainsOf_13 (by decide) ?_
  refine g_iret (pc := 14) d_LW_gainsOf_14 rfl ?_
  exact ⟨rfl, by assumption⟩
theorem ws_usesThumb {E : En} {h : Hp} {x out kz nz : Nat} {y0 : Int32} {Q : Int32 → Hp → Prop} (k_x : hK h x = 1) (hq : ∀ z h9, Q z h9 → hK h9 out = 24 ∧ hL h9 out = 1) (hc : CT E m_HS_usesThumb [.ref x, .int y0] h kz nz (fun v h1 => ∃ z, v = some (.int z) ∧ Q z h1) noX) (hk : kz ≤ 11) (hn : nz ≤ 156) : CT E m_LW_usesThumb [.ref x, .int y0, .ref out] h 11 156 (fun v h1 => v = some (.int 0) ∧ ∃ z h9, Q z h9 ∧ h1 = sJ h9 out 0 (if z = 0 then 0 else 1)) noX := by
  refine ct_ofH (by decide) (by decide +kernel) (Nat.le_of_ble_eq_true rfl) ?_
  show G E m_LW_usesThumb 0 [(0, .ref x), (1, .int y0), (2, .ref out)] [] h 11 156 _ noX
  refine g_less hk hn ?_
  show G E m_LW_usesThumb 0 [(0, .ref x), (1, .int y0), (2, .ref out)] [] h kz nz _ noX
  rw [← Nat.zero_add kz, ← Nat.zero_add nz]
  refine g_aload_n (pc := 0) d_LW_usesThumb_0 rfl 2 rfl ?_
  refine g_iconst (pc := 1) (v := 0) d_LW_usesThumb_1 (by decide) ?_
  refine g_aload_n (pc := 2) d_LW_usesThumb_2 rfl 0 rfl ?_
  refine g_iload_n (pc := 3) d_LW_usesThumb_3 rfl 1 rfl ?_
  refine g_callVH (k := 0) (n := 0) (pc := 4) (ci := 0) (As := [.int _]) d_LW_usesThumb_4 mv_HS_usesThumb st_LW_usesThumb_128 rfl rfl (by decide) k_x rfl rfl (Nat.le_of_ble_eq_true rfl) hc (fun _ _ z => z.elim) (fun v h1 z => ?_)
  obtain ⟨z, rfl, q⟩ := z
  obtain ⟨k_out, l_out⟩ := hq z h1 q
  refine g_if_eq (pc := 7) (tgt := 14) d_LW_usesThumb_7 (by decide) (fun c => ?_) (fun c => ?_)
  · refine g_lconst (pc := 14) (v := 0) d_LW_usesThumb_14 (by decide) ?_
    refine g_lastore (pc := 15) d_LW_usesThumb_15 k_out (by rw [l_out]; exact vp_in_nI (n := 0) (N := 1) (by decide) (by decide)) ?_
    refine g_goto (pc := 16) (tgt := 22) d_LW_usesThumb_16 (by decide) ?_
    refine g_iconst (pc := 22) (v := 0) d_LW_usesThumb_22 (by decide) ?_
    refine g_iret (pc := 23) d_LW_usesThumb_23 rfl ?_
    exact ⟨rfl, z, h1, q, by rw [if_pos c]; rfl⟩
  · refine g_lconst (pc := 10) (v := 1) d_LW_usesThumb_10 (by decide) ?_
    refine g_goto (pc := 11) (tgt := 15) d_LW_usesThumb_11 (by decide) ?_
    refine g_lastore (pc := 15) d_LW_usesThumb_15 k_out (by rw [l_out]; exact vp_in_nI (n := 0) (N := 1) (by decide) (by decide)) ?_
    refine g_goto (pc := 16) (tgt := 22) d_LW_usesThumb_16 (by decide) ?_
    refine g_iconst (pc := 22) (v := 0) d_LW_usesThumb_22 (by decide) ?_
    refine g_iret (pc := 23) d_LW_usesThumb_23 rfl ?_
    exact ⟨rfl, z, h1, q, by rw [if_neg c]; rfl⟩
theorem we_usesThumb_1 {E : En} {h : Hp} {x out kz nz : Nat} {y0 : Int32} {Q : Hp → Prop} (k_x : hK h x = 1) (hc : CT E m_HS_usesThumb [.ref x, .int y0] h kz nz (fun _ _ => False) (fun C h1 => C = "java/lang/IndexOutOfBoundsException" ∧ Q h1)) (hk : kz ≤ 11) (hn : nz ≤ 156) : CT E m_LW_usesThumb [.ref x, .int y0, .ref out] h 11 156 (fun v h1 => v = some (.int 1) ∧ Q h1) noX := by
  refine ct_ofH (by decide) (by decide +kernel) (Nat.le_of_ble_eq_true rfl) ?_
  show G E m_LW_usesThumb 0 [(0, .ref x), (1, .int y0), (2, .ref out)] [] h 11 156 _ noX
  refine g_less hk hn ?_
  show G E m_LW_usesThumb 0 [(0, .ref x), (1, .int y0), (2, .ref out)] [] h kz nz _ noX
  rw [← Nat.zero_add kz, ← Nat.zero_add nz]
  refine g_aload_n (pc := 0) d_LW_usesThumb_0 rfl 2 rfl ?_
  refine g_iconst (pc := 1) (v := 0) d_LW_usesThumb_1 (by decide) ?_
  refine g_aload_n (pc := 2) d_LW_usesThumb_2 rfl 0 rfl ?_
  refine g_iload_n (pc := 3) d_LW_usesThumb_3 rfl 1 rfl ?_
  refine g_callVH (k := 0) (n := 0) (pc := 4) (ci := 0) (As := [.int _]) d_LW_usesThumb_4 mv_HS_usesThumb st_LW_usesThumb_128 rfl rfl (by decide) k_x rfl rfl (Nat.le_of_ble_eq_true rfl) hc (fun C h1 z => ?_) (fun _ _ z => z.elim)
  obtain ⟨rfl, q⟩ := z
  refine ⟨_, hc_LW_usesThumb_1, fun q => ?_⟩
  refine g_astore_n (pc := 19) (lv' := [(3, .ref q), (0, .ref x), (1, .int y0), (2, .ref out)]) d_LW_usesThumb_19 rfl (by decide) rfl ?_
  refine g_iconst (pc := 20) (v := 1) d_LW_usesThumb_20 (by decide) ?_
  refine g_iret (pc := 21) d_LW_usesThumb_21 rfl ?_
  exact ⟨rfl, by assumption⟩
theorem ws_fineIfVisited {E : En} {h : Hp} {x out kz nz : Nat} {y0 : Int32} {Q : Int32 → Hp → Prop} (k_x : hK h x = 1) (hq : ∀ z h9, Q z h9 → hK h9 out = 24 ∧ hL h9 out = 1) (hc : CT E m_HS_fineIfVisited [.ref x, .int y0] h kz nz (fun v h1 => ∃ z, v = some (.int z) ∧ Q z h1) noX) (hk : kz ≤ 11) (hn : nz ≤ 156) : CT E m_LW_fineIfVisited [.ref x, .int y0, .ref out] h 11 156 (fun v h1 => v = some (.int 0) ∧ ∃ z h9, Q z h9 ∧ h1 = sJ h9 out 0 z.toInt64) noX := by
  refine ct_ofH (by decide) (by decide +kernel) (Nat.le_of_ble_eq_true rfl) ?_
  show G E m_LW_fineIfVisited 0 [(0, .ref x), (1, .int y0), (2, .ref out)] [] h 11 156 _ noX
  refine g_less hk hn ?_
  show G E m_LW_fineIfVisited 0 [(0, .ref x), (1, .int y0), (2, .ref out)] [] h kz nz _ noX
  rw [← Nat.zero_add kz, ← Nat.zero_add nz]
  refine g_aload_n (pc := 0) d_LW_fineIfVisited_0 rfl 2 rfl ?_
  refine g_iconst (pc := 1) (v := 0) d_LW_fineIfVisited_1 (by decide) ?_
  refine g_aload_n (pc := 2) d_LW_fineIfVisited_2 rfl 0 rfl ?_
  refine g_iload_n (pc := 3) d_LW_fineIfVisited_3 rfl 1 rfl ?_
  refine g_callVH (k := 0) (n := 0) (pc := 4) (ci := 0) (As := [.int _]) d_LW_fineIfVisited_4 mv_HS_fineIfVisited st_LW_fineIfVisited_131 rfl rfl (by decide) k_x rfl rfl (Nat.le_of_ble_eq_true rfl) hc (fun _ _ z => z.elim) (fun v h1 z => ?_)
  obtain ⟨z, rfl, q⟩ := z
  obtain ⟨k_out, l_out⟩ := hq z h1 q
  refine g_i2l (pc := 7) d_LW_fineIfVisited_7 ?_
  refine g_lastore (pc := 8) d_LW_fineIfVisited_8 k_out (by rw [l_out]; exact vp_in_nI (n := 0) (N := 1) (by decide) (by decide)) ?_
  refine g_goto (pc := 9) (tgt := 15) d_LW_fineIfVisited_9 (by decide) ?_
  refine g_iconst (pc := 15) (v := 0) d_LW_fineIfVisited_15 (by decide) ?_
  refine g_iret (pc := 16) d_LW_fineIfVisited_16 rfl ?_
  exact ⟨rfl, z, h1, q, rfl⟩
theorem we_fineIfVisited_1 {E : En} {h : Hp} {x out kz nz : Nat} {y0 : Int32} {Q : Hp → Prop} (k_x : hK h x = 1) (hc : CT E m_HS_fineIfVisited [.ref x, .int y0] h kz nz (fun _ _ => False) (fun C h1 => C = "java/lang/IndexOutOfBoundsException" ∧ Q h1)) (hk : kz ≤ 11) (hn : nz ≤ 156) : CT E m_LW_fineIfVisited [.ref x, .int y0, .ref out] h 11 156 (fun v h1 => v = some (.int 1) ∧ Q h1) noX := by
  refine ct_ofH (by decide) (by decide +kernel) (Nat.le_of_ble_eq_true rfl) ?_
  show G E m_LW_fineIfVisited 0 [(0, .ref x), (1, .int y0), (2, .ref out)] [] h 11 156 _ noX
  refine g_less hk hn ?_
  show G E m_LW_fineIfVisited 0 [(0, .ref x), (1, .int y0), (2, .ref out)] [] h kz nz _ noX
  rw [← Nat.zero_add kz, ← Nat.zero_add nz]
  refine g_aload_n (pc := 0) d_LW_fineIfVisited_0 rfl 2 rfl ?_
  refine g_iconst (pc := 1) (v := 0) d_LW_fineIfVisited_1 (by decide) ?_
  refine g_aload_n (pc := 2) d_LW_fineIfVisited_2 rfl 0 rfl ?_
  refine g_iload_n (pc := 3) d_LW_fineIfVisited_3 rfl 1 rfl ?_
  refine g_callVH (k := 0) (n := 0) (pc := 4) (ci := 0) (As := [.int _]) d_LW_fineIfVisited_4 mv_HS_fineIfVisited st_LW_fineIfVisited_131 rfl rfl (by decide) k_x rfl rfl (Nat.le_of_ble_eq_true rfl) hc (fun C h1 z => ?_) (fun _ _ z => z.elim)
  obtain ⟨rfl, q⟩ := z
  refine ⟨_, hc_LW_fineIfVisited_1, fun q => ?_⟩
  refine g_astore_n (pc := 12) (lv' := [(3, .ref q), (0, .ref x), (1, .int y0), (2, .ref out)]) d_LW_fineIfVisited_12 rfl (by decide) rfl ?_
  refine g_iconst (pc := 13) (v := 1) d_LW_fineIfVisited_13 (by decide) ?_
  refine g_iret (pc := 14) d_LW_fineIfVisited_14 rfl ?_
  exact ⟨rfl, by assumption⟩
theorem ws_whyFail {E : En} {h : Hp} {x out kz nz : Nat} {y0 : Int32} {Q : Int32 → Hp → Prop} (k_x : hK h x = 1) (hq : ∀ z h9, Q z h9 → hK h9 out = 24 ∧ hL h9 out = 1) (hc : CT E m_HS_whyFail [.ref x, .int y0] h kz nz (fun v h1 => ∃ z, v = some (.int z) ∧ Q z h1) noX) (hk : kz ≤ 11) (hn : nz ≤ 156) : CT E m_LW_whyFail [.ref x, .int y0, .ref out] h 11 156 (fun v h1 => v = some (.int 0) ∧ ∃ z h9, Q z h9 ∧ h1 = sJ h9 out 0 z.toInt64) noX := by
  refine ct_ofH (by decide) (by decide +kernel) (Nat.le_of_ble_eq_true rfl) ?_
  show G E m_LW_whyFail 0 [(0, .ref x), (1, .int y0), (2, .ref out)] [] h 11 156 _ noX
  refine g_less hk hn ?_
  show G E m_LW_whyFail 0 [(0, .ref x), (1, .int y0), (2, .ref out)] [] h kz nz _ noX
  rw [← Nat.zero_add kz, ← Nat.zero_add nz]
  refine g_aload_n (pc := 0) d_LW_whyFail_0 rfl 2 rfl ?_
  refine g_iconst (pc := 1) (v := 0) d_LW_whyFail_1 (by decide) ?_
  refine g_aload_n (pc := 2) d_LW_whyFail_2 rfl 0 rfl ?_
  refine g_iload_n (pc := 3) d_LW_whyFail_3 rfl 1 rfl ?_
  refine g_callVH (k := 0) (n := 0) (pc := 4) (ci := 0) (As := [.int _]) d_LW_whyFail_4 mv_HS_whyFail st_LW_whyFail_134 rfl rfl (by decide) k_x rfl rfl (Nat.le_of_ble_eq_true rfl) hc (fun _ _ z => z.elim) (fun v h1 z => ?_)
  obtain ⟨z, rfl, q⟩ := z
  obtain ⟨k_out, l_out⟩ := hq z h1 q
  refine g_i2l (pc := 7) d_LW_whyFail_7 ?_
  refine g_lastore (pc := 8) d_LW_whyFail_8 k_out (by rw [l_out]; exact vp_in_nI (n := 0) (N := 1) (by decide) (by decide)) ?_
  refine g_goto (pc := 9) (tgt := 15) d_LW_whyFail_9 (by decide) ?_
  refine g_iconst (pc := 15) (v := 0) d_LW_whyFail_15 (by decide) ?_
  refine g_iret (pc := 16) d_LW_whyFail_16 rfl ?_
  exact ⟨rfl, z, h1, q, rfl⟩
theorem we_whyFail_1 {E : En} {h : Hp} {x out kz nz : Nat} {y0 : Int32} {Q : Hp → Prop} (k_x : hK h x = 1) (hc : CT E m_HS_whyFail [.ref x, .int y0] h kz nz (fun _ _ => False) (fun C h1 => C = "java/lang/IndexOutOfBoundsException" ∧ Q h1)) (hk : kz ≤ 11) (hn : nz ≤ 156) : CT E m_LW_whyFail [.ref x, .int y0, .ref out] h 11 156 (fun v h1 => v = some (.int 1) ∧ Q h1) noX := by
  refine ct_ofH (by decide) (by decide +kernel) (Nat.le_of_ble_eq_true rfl) ?_
  show G E m_LW_whyFail 0 [(0, .ref x), (1, .int y0), (2, .ref out)] [] h 11 156 _ noX
  refine g_less hk hn ?_
  show G E m_LW_whyFail 0 [(0, .ref x), (1, .int y0), (2, .ref out)] [] h kz nz _ noX
  rw [← Nat.zero_add kz, ← Nat.zero_add nz]
  refine g_aload_n (pc := 0) d_LW_whyFail_0 rfl 2 rfl ?_
  refine g_iconst (pc := 1) (v := 0) d_LW_whyFail_1 (by decide) ?_
  refine g_aload_n (pc := 2) d_LW_whyFail_2 rfl 0 rfl ?_
  refine g_iload_n (pc := 3) d_LW_whyFail_3 rfl 1 rfl ?_
  refine g_callVH (k := 0) (n := 0) (pc := 4) (ci := 0) (As := [.int _]) d_LW_whyFail_4 mv_HS_whyFail st_LW_whyFail_134 rfl rfl (by decide) k_x rfl rfl (Nat.le_of_ble_eq_true rfl) hc (fun C h1 z => ?_) (fun _ _ z => z.elim)
  obtain ⟨rfl, q⟩ := z
  refine ⟨_, hc_LW_whyFail_1, fun q => ?_⟩
  refine g_astore_n (pc := 12) (lv' := [(3, .ref q), (0, .ref x), (1, .int y0), (2, .ref out)]) d_LW_whyFail_12 rfl (by decide) rfl ?_
  refine g_iconst (pc := 13) (v := 1) d_LW_whyFail_13 (by decide) ?_
  refine g_iret (pc := 14) d_LW_whyFail_14 rfl ?_
  exact ⟨rfl, by assumption⟩
theorem ws_nextGain {E : En} {h : Hp} {x out kz nz : Nat} {y0 : Int32} {Q : Int32 → Hp → Prop} (k_x : hK h x = 1) (hq : ∀ z h9, Q z h9 → hK h9 out = 24 ∧ hL h9 out = 1) (hc : CT E m_HS_nextGain [.ref x, .int y0] h kz nz (fun v h1 => ∃ z, v = some (.int z) ∧ Q z h1) noX) (hk : kz ≤ 11) (hn : nz ≤ 156) : CT E m_LW_nextGain [.ref x, .int y0, .ref out] h 11 156 (fun v h1 => v = some (.int 0) ∧ ∃ z h9, Q z h9 ∧ h1 = sJ h9 out 0 z.toInt64) noX := by
  refine ct_ofH (by decide) (by decide +kernel) (Nat.le_of_ble_eq_true rfl) ?_
  show G E m_LW_nextGain 0 [(0, .ref x), (1, .int y0), (2, .ref out)] [] h 11 156 _ noX
  refine g_less hk hn ?_
  show G E m_LW_nextGain 0 [(0, .ref x), (1, .int y0), (2, .ref out)] [] h kz nz _ noX
  rw [← Nat.zero_add kz, ← Nat.zero_add nz]
  refine g_aload_n (pc := 0) d_LW_nextGain_0 rfl 2 rfl ?_
  refine g_iconst (pc := 1) (v := 0) d_LW_nextGain_1 (by decide) ?_
  refine g_aload_n (pc := 2) d_LW_nextGain_2 rfl 0 rfl ?_
  refine g_iload_n (pc := 3) d_LW_nextGain_3 rfl 1 rfl ?_
  refine g_callVH (k := 0) (n := 0) (pc := 4) (ci := 0) (As := [.int _]) d_LW_nextGain_4 mv_HS_nextGain st_LW_nextGain_137 rfl rfl (by decide) k_x rfl rfl (Nat.le_of_ble_eq_true rfl) hc (fun _ _ z => z.elim) (fun v h1 z => ?_)
  obtain ⟨z, rfl, q⟩ := z
  obtain ⟨k_out, l_out⟩ := hq z h1 q
  refine g_i2l (pc := 7) d_LW_nextGain_7 ?_
  refine g_lastore (pc := 8) d_LW_nextGain_8 k_out (by rw [l_out]; exact vp_in_nI (n := 0) (N := 1) (by decide) (by decide)) ?_
  refine g_goto (pc := 9) (tgt := 15) d_LW_nextGain_9 (by decide) ?_
  refine g_iconst (pc := 15) (v := 0) d_LW_nextGain_15 (by decide) ?_
  refine g_iret (pc := 16) d_LW_nextGain_16 rfl ?_
  exact ⟨rfl, z, h1, q, rfl⟩
theorem we_nextGain_1 {E : En} {h : Hp} {x out kz nz : Nat} {y0 : Int32} {Q : Hp → Prop} (k_x : hK h x = 1) (hc : CT E m_HS_nextGain [.ref x, .int y0] h kz nz (fun _ _ => False) (fun C h1 => C = "java/lang/IndexOutOfBoundsException" ∧ Q h1)) (hk : kz ≤ 11) (hn : nz ≤ 156) : CT E m_LW_nextGain [.ref x, .int y0, .ref out] h 11 156 (fun v h1 => v = some (.int 1) ∧ Q h1) noX := by
  refine ct_ofH (by decide) (by decide +kernel) (Nat.le_of_ble_eq_true rfl) ?_
  show G E m_LW_nextGain 0 [(0, .ref x), (1, .int y0), (2, .ref out)] [] h 11 156 _ noX
  refine g_less hk hn ?_
  show G E m_LW_nextGain 0 [(0, .ref x), (1, .int y0), (2, .ref out)] [] h kz nz _ noX
  rw [← Nat.zero_add kz, ← Nat.zero_add nz]
  refine g_aload_n (pc := 0) d_LW_nextGain_0 rfl 2 rfl ?_
  refine g_iconst (pc := 1) (v := 0) d_LW_nextGain_1 (by decide) ?_
  refine g_aload_n (pc := 2) d_LW_nextGain_2 rfl 0 rfl ?_
  refine g_iload_n (pc := 3) d_LW_nextGain_3 rfl 1 rfl ?_
  refine g_callVH (k := 0) (n := 0) (pc := 4) (ci := 0) (As := [.int _]) d_LW_nextGain_4 mv_HS_nextGain st_LW_nextGain_137 rfl rfl (by decide) k_x rfl rfl (Nat.le_of_ble_eq_true rfl) hc (fun C h1 z => ?_) (fun _ _ z => z.elim)
  obtain ⟨rfl, q⟩ := z
  refine ⟨_, hc_LW_nextGain_1, fun q => ?_⟩
  refine g_astore_n (pc := 12) (lv' := [(3, .ref q), (0, .ref x), (1, .int y0), (2, .ref out)]) d_LW_nextGain_12 rfl (by decide) rfl ?_
  refine g_iconst (pc := 13) (v := 1) d_LW_nextGain_13 (by decide) ?_
  refine g_iret (pc := 14) d_LW_nextGain_14 rfl ?_
  exact ⟨rfl, by assumption⟩
theorem ws_daysUntilFalse {E : En} {h : Hp} {x out kz nz : Nat} {y0 : Int32} {Q : Int32 → Hp → Prop} (k_x : hK h x = 1) (hq : ∀ z h9, Q z h9 → hK h9 out = 24 ∧ hL h9 out = 1) (hc : CT E m_HS_daysUntilFalse [.ref x, .int y0] h kz nz (fun v h1 => ∃ z, v = some (.int z) ∧ Q z h1) noX) (hk : kz ≤ 11) (hn : nz ≤ 156) : CT E m_LW_daysUntilFalse [.ref x, .int y0, .ref out] h 11 156 (fun v h1 => v = some (.int 0) ∧ ∃ z h9, Q z h9 ∧ h1 = sJ h9 out 0 z.toInt64) noX := by
  refine ct_ofH (by decide) (by decide +kernel) (Nat.le_of_ble_eq_true rfl) ?_
  show G E m_LW_daysUntilFalse 0 [(0, .ref x), (1, .int y0), (2, .ref out)] [] h 11 156 _ noX
  refine g_less hk hn ?_
  show G E m_LW_daysUntilFalse 0 [(0, .ref x), (1, .int y0), (2, .ref out)] [] h kz nz _ noX
  rw [← Nat.zero_add kz, ← Nat.zero_add nz]
  refine g_aload_n (pc := 0) d_LW_daysUntilFalse_0 rfl 2 rfl ?_
  refine g_iconst (pc := 1) (v := 0) d_LW_daysUntilFalse_1 (by decide) ?_
  refine g_aload_n (pc := 2) d_LW_daysUntilFalse_2 rfl 0 rfl ?_
  refine g_iload_n (pc := 3) d_LW_daysUntilFalse_3 rfl 1 rfl ?_
  refine g_callVH (k := 0) (n := 0) (pc := 4) (ci := 0) (As := [.int _]) d_LW_daysUntilFalse_4 mv_HS_daysUntilFalse st_LW_daysUntilFalse_140 rfl rfl (by decide) k_x rfl rfl (Nat.le_of_ble_eq_true rfl) hc (fun _ _ z => z.elim) (fun v h1 z => ?_)
  obtain ⟨z, rfl, q⟩ := z
  obtain ⟨k_out, l_out⟩ := hq z h1 q
  refine g_i2l (pc := 7) d_LW_daysUntilFalse_7 ?_
  refine g_lastore (pc := 8) d_LW_daysUntilFalse_8 k_out (by rw [l_out]; exact vp_in_nI (n := 0) (N := 1) (by decide) (by decide)) ?_
  refine g_goto (pc := 9) (tgt := 15) d_LW_daysUntilFalse_9 (by decide) ?_
  refine g_iconst (pc := 15) (v := 0) d_LW_daysUntilFalse_15 (by decide) ?_
  refine g_iret (pc := 16) d_LW_daysUntilFalse_16 rfl ?_
  exact ⟨rfl, z, h1, q, rfl⟩
theorem we_daysUntilFalse_1 {E : En} {h : Hp} {x out kz nz : Nat} {y0 : Int32} {Q : Hp → Prop} (k_x : hK h x = 1) (hc : CT E m_HS_daysUntilFalse [.ref x, .int y0] h kz nz (fun _ _ => False) (fun C h1 => C = "java/lang/IndexOutOfBoundsException" ∧ Q h1)) (hk : kz ≤ 11) (hn : nz ≤ 156) : CT E m_LW_daysUntilFalse [.ref x, .int y0, .ref out] h 11 156 (fun v h1 => v = some (.int 1) ∧ Q h1) noX := by
  refine ct_ofH (by decide) (by decide +kernel) (Nat.le_of_ble_eq_true rfl) ?_
  show G E m_LW_daysUntilFalse 0 [(0, .ref x), (1, .int y0), (2, .ref out)] [] h 11 156 _ noX
  refine g_less hk hn ?_
  show G E m_LW_daysUntilFalse 0 [(0, .ref x), (1, .int y0), (2, .ref out)] [] h kz nz _ noX
  rw [← Nat.zero_add kz, ← Nat.zero_add nz]
  refine g_aload_n (pc := 0) d_LW_daysUntilFalse_0 rfl 2 rfl ?_
  refine g_iconst (pc := 1) (v := 0) d_LW_daysUntilFalse_1 (by decide) ?_
  refine g_aload_n (pc := 2) d_LW_daysUntilFalse_2 rfl 0 rfl ?_
  refine g_iload_n (pc := 3) d_LW_daysUntilFalse_3 rfl 1 rfl ?_
  refine g_callVH (k := 0) (n := 0) (pc := 4) (ci := 0) (As := [.int _]) d_LW_daysUntilFalse_4 mv_HS_daysUntilFalse st_LW_daysUntilFalse_140 rfl rfl (by decide) k_x rfl rfl (Nat.le_of_ble_eq_true rfl) hc (fun C h1 z => ?_) (fun _ _ z => z.elim)
  obtain ⟨rfl, q⟩ := z
  refine ⟨_, hc_LW_daysUntilFalse_1, fun q => ?_⟩
  refine g_astore_n (pc := 12) (lv' := [(3, .ref q), (0, .ref x), (1, .int y0), (2, .ref out)]) d_LW_daysUntilFalse_12 rfl (by decide) rfl ?_
  refine g_iconst (pc := 13) (v := 1) d_LW_daysUntilFalse_13 (by decide) ?_
  refine g_iret (pc := 14) d_LW_daysUntilFalse_14 rfl ?_
  exact ⟨rfl, by assumption⟩
theorem ws_purseAfter {E : En} {h : Hp} {x out kz nz : Nat} {y0 y1 : Int32} {Q : Int32 → Hp → Prop} (k_x : hK h x = 1) (hq : ∀ z h9, Q z h9 → hK h9 out = 24 ∧ hL h9 out = 1) (hc : CT E m_HS_purseAfter [.ref x, .int y0, .int y1] h kz nz (fun v h1 => ∃ z, v = some (.int z) ∧ Q z h1) noX) (hk : kz ≤ 11) (hn : nz ≤ 156) : CT E m_LW_purseAfter [.ref x, .int y0, .int y1, .ref out] h 11 156 (fun v h1 => v = some (.int 0) ∧ ∃ z h9, Q z h9 ∧ h1 = sJ h9 out 0 z.toInt64) noX := by
  refine ct_ofH (by decide) (by decide +kernel) (Nat.le_of_ble_eq_true rfl) ?_
  show G E m_LW_purseAfter 0 [(0, .ref x), (1, .int y0), (2, .int y1), (3, .ref out)] [] h 11 156 _ noX
  refine g_less hk hn ?_
  show G E m_LW_purseAfter 0 [(0, .ref x), (1, .int y0), (2, .int y1), (3, .ref out)] [] h kz nz _ noX
  rw [← Nat.zero_add kz, ← Nat.zero_add nz]
  refine g_aload_n (pc := 0) d_LW_purseAfter_0 rfl 3 rfl ?_
  refine g_iconst (pc := 1) (v := 0) d_LW_purseAfter_1 (by decide) ?_
  refine g_aload_n (pc := 2) d_LW_purseAfter_2 rfl 0 rfl ?_
  refine g_iload_n (pc := 3) d_LW_purseAfter_3 rfl 1 rfl ?_
  refine g_iload_n (pc := 4) d_LW_purseAfter_4 rfl 2 rfl ?_
  refine g_callVH (k := 0) (n := 0) (pc := 5) (ci := 0) (As := [.int _, .int _]) d_LW_purseAfter_5 mv_HS_purseAfter st_LW_purseAfter_143 rfl rfl (by decide) k_x rfl rfl (Nat.le_of_ble_eq_true rfl) hc (fun _ _ z => z.elim) (fun v h1 z => ?_)
  obtain ⟨z, rfl, q⟩ := z
  obtain ⟨k_out, l_out⟩ := hq z h1 q
  refine g_i2l (pc := 8) d_LW_purseAfter_8 ?_
  refine g_lastore (pc := 9) d_LW_purseAfter_9 k_out (by rw [l_out]; exact vp_in_nI (n := 0) (N := 1) (by decide) (by decide)) ?_
  refine g_goto (pc := 10) (tgt := 21) d_LW_purseAfter_10 (by decide) ?_
  refine g_iconst (pc := 21) (v := 0) d_LW_purseAfter_21 (by decide) ?_
  refine g_iret (pc := 22) d_LW_purseAfter_22 rfl ?_
  exact ⟨rfl, z, h1, q, rfl⟩
theorem we_purseAfter_1 {E : En} {h : Hp} {x out kz nz : Nat} {y0 y1 : Int32} {Q : Hp → Prop} (k_x : hK h x = 1) (hc : CT E m_HS_purseAfter [.ref x, .int y0, .int y1] h kz nz (fun _ _ => False) (fun C h1 => C = "java/lang/IndexOutOfBoundsException" ∧ Q h1)) (hk : kz ≤ 11) (hn : nz ≤ 156) : CT E m_LW_purseAfter [.ref x, .int y0, .int y1, .ref out] h 11 156 (fun v h1 => v = some (.int 1) ∧ Q h1) noX := by
  refine ct_ofH (by decide) (by decide +kernel) (Nat.le_of_ble_eq_true rfl) ?_
  show G E m_LW_purseAfter 0 [(0, .ref x), (1, .int y0), (2, .int y1), (3, .ref out)] [] h 11 156 _ noX
  refine g_less hk hn ?_
  show G E m_LW_purseAfter 0 [(0, .ref x), (1, .int y0), (2, .int y1), (3, .ref out)] [] h kz nz _ noX
  rw [← Nat.zero_add kz, ← Nat.zero_add nz]
  refine g_aload_n (pc := 0) d_LW_purseAfter_0 rfl 3 rfl ?_
  refine g_iconst (pc := 1) (v := 0) d_LW_purseAfter_1 (by decide) ?_
  refine g_aload_n (pc := 2) d_LW_purseAfter_2 rfl 0 rfl ?_
  refine g_iload_n (pc := 3) d_LW_purseAfter_3 rfl 1 rfl ?_
  refine g_iload_n (pc := 4) d_LW_purseAfter_4 rfl 2 rfl ?_
  refine g_callVH (k := 0) (n := 0) (pc := 5) (ci := 0) (As := [.int _, .int _]) d_LW_purseAfter_5 mv_HS_purseAfter st_LW_purseAfter_143 rfl rfl (by decide) k_x rfl rfl (Nat.le_of_ble_eq_true rfl) hc (fun C h1 z => ?_) (fun _ _ z => z.elim)
  obtain ⟨rfl, q⟩ := z
  refine ⟨_, hc_LW_purseAfter_1, fun q => ?_⟩
  refine g_astore (pc := 13) (lv' := [(4, .ref q), (0, .ref x), (1, .int y0), (2, .int y1), (3, .ref out)]) d_LW_purseAfter_13 (by decide) rfl ?_
  refine g_iconst (pc := 15) (v := 1) d_LW_purseAfter_15 (by decide) ?_
  refine g_iret (pc := 16) d_LW_purseAfter_16 rfl ?_
  exact ⟨rfl, by assumption⟩
theorem we_purseAfter_2 {E : En} {h : Hp} {x out kz nz : Nat} {y0 y1 : Int32} {Q : Hp → Prop} (k_x : hK h x = 1) (hc : CT E m_HS_purseAfter [.ref x, .int y0, .int y1] h kz nz (fun _ _ => False) (fun C h1 => C = "java/lang/IllegalArgumentException" ∧ Q h1)) (hk : kz ≤ 11) (hn : nz ≤ 156) : CT E m_LW_purseAfter [.ref x, .int y0, .int y1, .ref out] h 11 156 (fun v h1 => v = some (.int 2) ∧ Q h1) noX := by
  refine ct_ofH (by decide) (by decide +kernel) (Nat.le_of_ble_eq_true rfl) ?_
  show G E m_LW_purseAfter 0 [(0, .ref x), (1, .int y0), (2, .int y1), (3, .ref out)] [] h 11 156 _ noX
  refine g_less hk hn ?_
  show G E m_LW_purseAfter 0 [(0, .ref x), (1, .int y0), (2, .int y1), (3, .ref out)] [] h kz nz _ noX
  rw [← Nat.zero_add kz, ← Nat.zero_add nz]
  refine g_aload_n (pc := 0) d_LW_purseAfter_0 rfl 3 rfl ?_
  refine g_iconst (pc := 1) (v := 0) d_LW_purseAfter_1 (by decide) ?_
  refine g_aload_n (pc := 2) d_LW_purseAfter_2 rfl 0 rfl ?_
  refine g_iload_n (pc := 3) d_LW_purseAfter_3 rfl 1 rfl ?_
  refine g_iload_n (pc := 4) d_LW_purseAfter_4 rfl 2 rfl ?_
  refine g_callVH (k := 0) (n := 0) (pc := 5) (ci := 0) (As := [.int _, .int _]) d_LW_purseAfter_5 mv_HS_purseAfter st_LW_purseAfter_143 rfl rfl (by decide) k_x rfl rfl (Nat.le_of_ble_eq_true rfl) hc (fun C h1 z => ?_) (fun _ _ z => z.elim)
  obtain ⟨rfl, q⟩ := z
  refine ⟨_, hc_LW_purseAfter_2, fun q => ?_⟩
  refine g_astore (pc := 17) (lv' := [(4, .ref q), (0, .ref x), (1, .int y0), (2, .int y1), (3, .ref out)]) d_LW_purseAfter_17 (by decide) rfl ?_
  refine g_iconst (pc := 19) (v := 2) d_LW_purseAfter_19 (by decide) ?_
  refine g_iret (pc := 20) d_LW_purseAfter_20 rfl ?_
  exact ⟨rfl, by assumption⟩
theorem ws_bestThumb {E : En} {h : Hp} {x out kz nz : Nat} {y0 y1 : Int32} {Q : Int32 → Hp → Prop} (k_x : hK h x = 1) (hq : ∀ z h9, Q z h9 → hK h9 out = 24 ∧ hL h9 out = 1) (hc : CT E m_HS_bestThumb [.ref x, .int y0, .int y1] h kz nz (fun v h1 => ∃ z, v = some (.int z) ∧ Q z h1) noX) (hk : kz ≤ 11) (hn : nz ≤ 156) : CT E m_LW_bestThumb [.ref x, .int y0, .int y1, .ref out] h 11 156 (fun v h1 => v = some (.int 0) ∧ ∃ z h9, Q z h9 ∧ h1 = sJ h9 out 0 z.toInt64) noX := by
  refine ct_ofH (by decide) (by decide +kernel) (Nat.le_of_ble_eq_true rfl) ?_
  show G E m_LW_bestThumb 0 [(0, .ref x), (1, .int y0), (2, .int y1), (3, .ref out)] [] h 11 156 _ noX
  refine g_less hk hn ?_
  show G E m_LW_bestThumb 0 [(0, .ref x), (1, .int y0), (2, .int y1), (3, .ref out)] [] h kz nz _ noX
  rw [← Nat.zero_add kz, ← Nat.zero_add nz]
  refine g_aload_n (pc := 0) d_LW_bestThumb_0 rfl 3 rfl ?_
  refine g_iconst (pc := 1) (v := 0) d_LW_bestThumb_1 (by decide) ?_
  refine g_aload_n (pc := 2) d_LW_bestThumb_2 rfl 0 rfl ?_
  refine g_iload_n (pc := 3) d_LW_bestThumb_3 rfl 1 rfl ?_
  refine g_iload_n (pc := 4) d_LW_bestThumb_4 rfl 2 rfl ?_
  refine g_callVH (k := 0) (n := 0) (pc := 5) (ci := 0) (As := [.int _, .int _]) d_LW_bestThumb_5 mv_HS_bestThumb st_LW_bestThumb_146 rfl rfl (by decide) k_x rfl rfl (Nat.le_of_ble_eq_true rfl) hc (fun _ _ z => z.elim) (fun v h1 z => ?_)
  obtain ⟨z, rfl, q⟩ := z
  obtain ⟨k_out, l_out⟩ := hq z h1 q
  refine g_i2l (pc := 8) d_LW_bestThumb_8 ?_
  refine g_lastore (pc := 9) d_LW_bestThumb_9 k_out (by rw [l_out]; exact vp_in_nI (n := 0) (N := 1) (by decide) (by decide)) ?_
  refine g_goto (pc := 10) (tgt := 21) d_LW_bestThumb_10 (by decide) ?_
  refine g_iconst (pc := 21) (v := 0) d_LW_bestThumb_21 (by decide) ?_
  refine g_iret (pc := 22) d_LW_bestThumb_22 rfl ?_
  exact ⟨rfl, z, h1, q, rfl⟩
theorem we_bestThumb_1 {E : En} {h : Hp} {x out kz nz : Nat} {y0 y1 : Int32} {Q : Hp → Prop} (k_x : hK h x = 1) (hc : CT E m_HS_bestThumb [.ref x, .int y0, .int y1] h kz nz (fun _ _ => False) (fun C h1 => C = "java/lang/IndexOutOfBoundsException" ∧ Q h1)) (hk : kz ≤ 11) (hn : nz ≤ 156) : CT E m_LW_bestThumb [.ref x, .int y0, .int y1, .ref out] h 11 156 (fun v h1 => v = some (.int 1) ∧ Q h1) noX := by
  refine ct_ofH (by decide) (by decide +kernel) (Nat.le_of_ble_eq_true rfl) ?_
  show G E m_LW_bestThumb 0 [(0, .ref x), (1, .int y0), (2, .int y1), (3, .ref out)] [] h 11 156 _ noX
  refine g_less hk hn ?_
  show G E m_LW_bestThumb 0 [(0, .ref x), (1, .int y0), (2, .int y1), (3, .ref out)] [] h kz nz _ noX
  rw [← Nat.zero_add kz, ← Nat.zero_add nz]
  refine g_aload_n (pc := 0) d_LW_bestThumb_0 rfl 3 rfl ?_
  refine g_iconst (pc := 1) (v := 0) d_LW_bestThumb_1 (by decide) ?_
  refine g_aload_n (pc := 2) d_LW_bestThumb_2 rfl 0 rfl ?_
  refine g_iload_n (pc := 3) d_LW_bestThumb_3 rfl 1 rfl ?_
  refine g_iload_n (pc := 4) d_LW_bestThumb_4 rfl 2 rfl ?_
  refine g_callVH (k := 0) (n := 0) (pc := 5) (ci := 0) (As := [.int _, .int _]) d_LW_bestThumb_5 mv_HS_bestThumb st_LW_bestThumb_146 rfl rfl (by decide) k_x rfl rfl (Nat.le_of_ble_eq_true rfl) hc (fun C h1 z => ?_) (fun _ _ z => z.elim)
  obtain ⟨rfl, q⟩ := z
  refine ⟨_, hc_LW_bestThumb_1, fun q => ?_⟩
  refine g_astore (pc := 13) (lv' := [(4, .ref q), (0, .ref x), (1, .int y0), (2, .int y1), (3, .ref out)]) d_LW_bestThumb_13 (by decide) rfl ?_
  refine g_iconst (pc := 15) (v := 1) d_LW_bestThumb_15 (by decide) ?_
  refine g_iret (pc := 16) d_LW_bestThumb_16 rfl ?_
  exact ⟨rfl, by assumption⟩
theorem we_bestThumb_2 {E : En} {h : Hp} {x out kz nz : Nat} {y0 y1 : Int32} {Q : Hp → Prop} (k_x : hK h x = 1) (hc : CT E m_HS_bestThumb [.ref x, .int y0, .int y1] h kz nz (fun _ _ => False) (fun C h1 => C = "java/lang/IllegalArgumentException" ∧ Q h1)) (hk : kz ≤ 11) (hn : nz ≤ 156) : CT E m_LW_bestThumb [.ref x, .int y0, .int y1, .ref out] h 11 156 (fun v h1 => v = some (.int 2) ∧ Q h1) noX := by
  refine ct_ofH (by decide) (by decide +kernel) (Nat.le_of_ble_eq_true rfl) ?_
  show G E m_LW_bestThumb 0 [(0, .ref x), (1, .int y0), (2, .int y1), (3, .ref out)] [] h 11 156 _ noX
  refine g_less hk hn ?_
  show G E m_LW_bestThumb 0 [(0, .ref x), (1, .int y0), (2, .int y1), (3, .ref out)] [] h kz nz _ noX
  rw [← Nat.zero_add kz, ← Nat.zero_add nz]
  refine g_aload_n (pc := 0) d_LW_bestThumb_0 rfl 3 rfl ?_
  refine g_iconst (pc := 1) (v := 0) d_LW_bestThumb_1 (by decide) ?_
  refine g_aload_n (pc := 2) d_LW_bestThumb_2 rfl 0 rfl ?_
  refine g_iload_n (pc := 3) d_LW_bestThumb_3 rfl 1 rfl ?_
  refine g_iload_n (pc := 4) d_LW_bestThumb_4 rfl 2 rfl ?_
  refine g_callVH (k := 0) (n := 0) (pc := 5) (ci := 0) (As := [.int _, .int _]) d_LW_bestThumb_5 mv_HS_bestThumb st_LW_bestThumb_146 rfl rfl (by decide) k_x rfl rfl (Nat.le_of_ble_eq_true rfl) hc (fun C h1 z => ?_) (fun _ _ z => z.elim)
  obtain ⟨rfl, q⟩ := z
  refine ⟨_, hc_LW_bestThumb_2, fun q => ?_⟩
  refine g_astore (pc := 17) (lv' := [(4, .ref q), (0, .ref x), (1, .int y0), (2, .int y1), (3, .ref out)]) d_LW_bestThumb_17 (by decide) rfl ?_
  refine g_iconst (pc := 19) (v := 2) d_LW_bestThumb_19 (by decide) ?_
  refine g_iret (pc := 20) d_LW_bestThumb_20 rfl ?_
  exact ⟨rfl, by assumption⟩
theorem ws_ounces {E : En} {h : Hp} {x out kz nz : Nat} {y0 : Int32} {Q : Int32 → Hp → Prop} (k_x : hK h x = 1) (hq : ∀ z h9, Q z h9 → hK h9 out = 24 ∧ hL h9 out = 1) (hc : CT E m_HS_ounces [.ref x, .int y0] h kz nz (fun v h1 => ∃ z, v = some (.int z) ∧ Q z h1) noX) (hk : kz ≤ 11) (hn : nz ≤ 156) : CT E m_LW_ounces [.ref x, .int y0, .ref out] h 11 156 (fun v h1 => v = some (.int 0) ∧ ∃ z h9, Q z h9 ∧ h1 = sJ h9 out 0 z.toInt64) noX := by
  refine ct_ofH (by decide) (by decide +kernel) (Nat.le_of_ble_eq_true rfl) ?_
  show G E m_LW_ounces 0 [(0, .ref x), (1, .int y0), (2, .ref out)] [] h 11 156 _ noX
  refine g_less hk hn ?_
  show G E m_LW_ounces 0 [(0, .ref x), (1, .int y0), (2, .ref out)] [] h kz nz _ noX
  rw [← Nat.zero_add kz, ← Nat.zero_add nz]
  refine g_aload_n (pc := 0) d_LW_ounces_0 rfl 2 rfl ?_
  refine g_iconst (pc := 1) (v := 0) d_LW_ounces_1 (by decide) ?_
  refine g_aload_n (pc := 2) d_LW_ounces_2 rfl 0 rfl ?_
  refine g_iload_n (pc := 3) d_LW_ounces_3 rfl 1 rfl ?_
  refine g_callVH (k := 0) (n := 0) (pc := 4) (ci := 0) (As := [.int _]) d_LW_ounces_4 mv_HS_ounces st_LW_ounces_149 rfl rfl (by decide) k_x rfl rfl (Nat.le_of_ble_eq_true rfl) hc (fun _ _ z => z.elim) (fun v h1 z => ?_)
  obtain ⟨z, rfl, q⟩ := z
  obtain ⟨k_out, l_out⟩ := hq z h1 q
  refine g_i2l (pc := 7) d_LW_ounces_7 ?_
  refine g_lastore (pc := 8) d_LW_ounces_8 k_out (by rw [l_out]; exact vp_in_nI (n := 0) (N := 1) (by decide) (by decide)) ?_
  refine g_goto (pc := 9) (tgt := 15) d_LW_ounces_9 (by decide) ?_
  refine g_iconst (pc := 15) (v := 0) d_LW_ounces_15 (by decide) ?_
  refine g_iret (pc := 16) d_LW_ounces_16 rfl ?_
  exact ⟨rfl, z, h1, q, rfl⟩
theorem we_ounces_1 {E : En} {h : Hp} {x out kz nz : Nat} {y0 : Int32} {Q : Hp → Prop} (k_x : hK h x = 1) (hc : CT E m_HS_ounces [.ref x, .int y0] h kz nz (fun _ _ => False) (fun C h1 => C = "java/lang/IndexOutOfBoundsException" ∧ Q h1)) (hk : kz ≤ 11) (hn : nz ≤ 156) : CT E m_LW_ounces [.ref x, .int y0, .ref out] h 11 156 (fun v h1 => v = some (.int 1) ∧ Q h1) noX := by
  refine ct_ofH (by decide) (by decide +kernel) (Nat.le_of_ble_eq_true rfl) ?_
  show G E m_LW_ounces 0 [(0, .ref x), (1, .int y0), (2, .ref out)] [] h 11 156 _ noX
  refine g_less hk hn ?_
  show G E m_LW_ounces 0 [(0, .ref x), (1, .int y0), (2, .ref out)] [] h kz nz _ noX
  rw [← Nat.zero_add kz, ← Nat.zero_add nz]
  refine g_aload_n (pc := 0) d_LW_ounces_0 rfl 2 rfl ?_
  refine g_iconst (pc := 1) (v := 0) d_LW_ounces_1 (by decide) ?_
  refine g_aload_n (pc := 2) d_LW_ounces_2 rfl 0 rfl ?_
  refine g_iload_n (pc := 3) d_LW_ounces_3 rfl 1 rfl ?_
  refine g_callVH (k := 0) (n := 0) (pc := 4) (ci := 0) (As := [.int _]) d_LW_ounces_4 mv_HS_ounces st_LW_ounces_149 rfl rfl (by decide) k_x rfl rfl (Nat.le_of_ble_eq_true rfl) hc (fun C h1 z => ?_) (fun _ _ z => z.elim)
  obtain ⟨rfl, q⟩ := z
  refine ⟨_, hc_LW_ounces_1, fun q => ?_⟩
  refine g_astore_n (pc := 12) (lv' := [(3, .ref q), (0, .ref x), (1, .int y0), (2, .ref out)]) d_LW_ounces_12 rfl (by decide) rfl ?_
  refine g_iconst (pc := 13) (v := 1) d_LW_ounces_13 (by decide) ?_
  refine g_iret (pc := 14) d_LW_ounces_14 rfl ?_
  exact ⟨rfl, by assumption⟩
theorem ws_expiringStamps {E : En} {h : Hp} {x out kz nz : Nat} {y0 : Int32} {Q : Int32 → Hp → Prop} (k_x : hK h x = 1) (hq : ∀ z h9, Q z h9 → hK h9 out = 24 ∧ hL h9 out = 1) (hc : CT E m_HS_expiringStamps [.ref x, .int y0] h kz nz (fun v h1 => ∃ z, v = some (.int z) ∧ Q z h1) noX) (hk : kz ≤ 11) (hn : nz ≤ 156) : CT E m_LW_expiringStamps [.ref x, .int y0, .ref out] h 11 156 (fun v h1 => v = some (.int 0) ∧ ∃ z h9, Q z h9 ∧ h1 = sJ h9 out 0 z.toInt64) noX := by
  refine ct_ofH (by decide) (by decide +kernel) (Nat.le_of_ble_eq_true rfl) ?_
  show G E m_LW_expiringStamps 0 [(0, .ref x), (1, .int y0), (2, .ref out)] [] h 11 156 _ noX
  refine g_less hk hn ?_
  show G E m_LW_expiringStamps 0 [(0, .ref x), (1, .int y0), (2, .ref out)] [] h kz nz _ noX
  rw [← Nat.zero_add kz, ← Nat.zero_add nz]
  refine g_aload_n (pc := 0) d_LW_expiringStamps_0 rfl 2 rfl ?_
  refine g_iconst (pc := 1) (v := 0) d_LW_expiringStamps_1 (by decide) ?_
  refine g_aload_n (pc := 2) d_LW_expiringStamps_2 rfl 0 rfl ?_
  refine g_iload_n (pc := 3) d_LW_expiringStamps_3 rfl 1 rfl ?_
  refine g_callVH (k := 0) (n := 0) (pc := 4) (ci := 0) (As := [.int _]) d_LW_expiringStamps_4 mv_HS_expiringStamps st_LW_expiringStamps_152 rfl rfl (by decide) k_x rfl rfl (Nat.le_of_ble_eq_true rfl) hc (fun _ _ z => z.elim) (fun v h1 z => ?_)
  obtain ⟨z, rfl, q⟩ := z
  obtain ⟨k_out, l_out⟩ := hq z h1 q
  refine g_i2l (pc := 7) d_LW_expiringStamps_7 ?_
  refine g_lastore (pc := 8) d_LW_expiringStamps_8 k_out (by rw [l_out]; exact vp_in_nI (n := 0) (N := 1) (by decide) (by decide)) ?_
  refine g_goto (pc := 9) (tgt := 15) d_LW_expiringStamps_9 (by decide) ?_
  refine g_iconst (pc := 15) (v := 0) d_LW_expiringStamps_15 (by decide) ?_
  refine g_iret (pc := 16) d_LW_expiringStamps_16 rfl ?_
  exact ⟨rfl, z, h1, q, rfl⟩
theorem we_expiringStamps_1 {E : En} {h : Hp} {x out kz nz : Nat} {y0 : Int32} {Q : Hp → Prop} (k_x : hK h x = 1) (hc : CT E m_HS_expiringStamps [.ref x, .int y0] h kz nz (fun _ _ => False) (fun C h1 => C = "java/lang/IllegalArgumentException" ∧ Q h1)) (hk : kz ≤ 11) (hn : nz ≤ 156) : CT E m_LW_expiringStamps [.ref x, .int y0, .ref out] h 11 156 (fun v h1 => v = some (.int 1) ∧ Q h1) noX := by
  refine ct_ofH (by decide) (by decide +kernel) (Nat.le_of_ble_eq_true rfl) ?_
  show G E m_LW_expiringStamps 0 [(0, .ref x), (1, .int y0), (2, .ref out)] [] h 11 156 _ noX
  refine g_less hk hn ?_
  show G E m_LW_expiringStamps 0 [(0, .ref x), (1, .int y0), (2, .ref out)] [] h kz nz _ noX
  rw [← Nat.zero_add kz, ← Nat.zero_add nz]
  refine g_aload_n (pc := 0) d_LW_expiringStamps_0 rfl 2 rfl ?_
  refine g_iconst (pc := 1) (v := 0) d_LW_expiringStamps_1 (by decide) ?_
  refine g_aload_n (pc := 2) d_LW_expiringStamps_2 rfl 0 rfl ?_
  refine g_iload_n (pc := 3) d_LW_expiringStamps_3 rfl 1 rfl ?_
  refine g_callVH (k := 0) (n := 0) (pc := 4) (ci := 0) (As := [.int _]) d_LW_expiringStamps_4 mv_HS_expiringStamps st_LW_expiringStamps_152 rfl rfl (by decide) k_x rfl rfl (Nat.le_of_ble_eq_true rfl) hc (fun C h1 z => ?_) (fun _ _ z => z.elim)
  obtain ⟨rfl, q⟩ := z
  refine ⟨_, hc_LW_expiringStamps_1, fun q => ?_⟩
  refine g_astore_n (pc := 12) (lv' := [(3, .ref q), (0, .ref x), (1, .int y0), (2, .ref out)]) d_LW_expiringStamps_12 rfl (by decide) rfl ?_
  refine g_iconst (pc := 13) (v := 1) d_LW_expiringStamps_13 (by decide) ?_
  refine g_iret (pc := 14) d_LW_expiringStamps_14 rfl ?_
  exact ⟨rfl, by assumption⟩
theorem ws_daysUntilClosed {E : En} {h : Hp} {x out kz nz : Nat} {y0 : Int32} {Q : Int32 → Hp → Prop} (k_x : hK h x = 1) (hq : ∀ z h9, Q z h9 → hK h9 out = 24 ∧ hL h9 out = 1) (hc : CT E m_HS_daysUntilClosed [.ref x, .int y0] h kz nz (fun v h1 => ∃ z, v = some (.int z) ∧ Q z h1) noX) (hk : kz ≤ 11) (hn : nz ≤ 156) : CT E m_LW_daysUntilClosed [.ref x, .int y0, .ref out] h 11 156 (fun v h1 => v = some (.int 0) ∧ ∃ z h9, Q z h9 ∧ h1 = sJ h9 out 0 z.toInt64) noX := by
  refine ct_ofH (by decide) (by decide +kernel) (Nat.le_of_ble_eq_true rfl) ?_
  show G E m_LW_daysUntilClosed 0 [(0, .ref x), (1, .int y0), (2, .ref out)] [] h 11 156 _ noX
  refine g_less hk hn ?_
  show G E m_LW_daysUntilClosed 0 [(0, .ref x), (1, .int y0), (2, .ref out)] [] h kz nz _ noX
  rw [← Nat.zero_add kz, ← Nat.zero_add nz]
  refine g_aload_n (pc := 0) d_LW_daysUntilClosed_0 rfl 2 rfl ?_
  refine g_iconst (pc := 1) (v := 0) d_LW_daysUntilClosed_1 (by decide) ?_
  refine g_aload_n (pc := 2) d_LW_daysUntilClosed_2 rfl 0 rfl ?_
  refine g_iload_n (pc := 3) d_LW_daysUntilClosed_3 rfl 1 rfl ?_
  refine g_callVH (k := 0) (n := 0) (pc := 4) (ci := 0) (As := [.int _]) d_LW_daysUntilClosed_4 mv_HS_daysUntilClosed st_LW_daysUntilClosed_155 rfl rfl (by decide) k_x rfl rfl (Nat.le_of_ble_eq_true rfl) hc (fun _ _ z => z.elim) (fun v h1 z => ?_)
  obtain ⟨z, rfl, q⟩ := z
  obtain ⟨k_out, l_out⟩ := hq z h1 q
  refine g_i2l (pc := 7) d_LW_daysUntilClosed_7 ?_
  refine g_lastore (pc := 8) d_LW_daysUntilClosed_8 k_out (by rw [l_out]; exact vp_in_nI (n := 0) (N := 1) (by decide) (by decide)) ?_
  refine g_goto (pc := 9) (tgt := 15) d_LW_daysUntilClosed_9 (by decide) ?_
  refine g_iconst (pc := 15) (v := 0) d_LW_daysUntilClosed_15 (by decide) ?_
  refine g_iret (pc := 16) d_LW_daysUntilClosed_16 rfl ?_
  exact ⟨rfl, z, h1, q, rfl⟩
theorem we_daysUntilClosed_1 {E : En} {h : Hp} {x out kz nz : Nat} {y0 : Int32} {Q : Hp → Prop} (k_x : hK h x = 1) (hc : CT E m_HS_daysUntilClosed [.ref x, .int y0] h kz nz (fun _ _ => False) (fun C h1 => C = "java/lang/IndexOutOfBoundsException" ∧ Q h1)) (hk : kz ≤ 11) (hn : nz ≤ 156) : CT E m_LW_daysUntilClosed [.ref x, .int y0, .ref out] h 11 156 (fun v h1 => v = some (.int 1) ∧ Q h1) noX := by
  refine ct_ofH (by decide) (by decide +kernel) (Nat.le_of_ble_eq_true rfl) ?_
  show G E m_LW_daysUntilClosed 0 [(0, .ref x), (1, .int y0), (2, .ref out)] [] h 11 156 _ noX
  refine g_less hk hn ?_
  show G E m_LW_daysUntilClosed 0 [(0, .ref x), (1, .int y0), (2, .ref out)] [] h kz nz _ noX
  rw [← Nat.zero_add kz, ← Nat.zero_add nz]
  refine g_aload_n (pc := 0) d_LW_daysUntilClosed_0 rfl 2 rfl ?_
  refine g_iconst (pc := 1) (v := 0) d_LW_daysUntilClosed_1 (by decide) ?_
  refine g_aload_n (pc := 2) d_LW_daysUntilClosed_2 rfl 0 rfl ?_
  refine g_iload_n (pc := 3) d_LW_daysUntilClosed_3 rfl 1 rfl ?_
  refine g_callVH (k := 0) (n := 0) (pc := 4) (ci := 0) (As := [.int _]) d_LW_daysUntilClosed_4 mv_HS_daysUntilClosed st_LW_daysUntilClosed_155 rfl rfl (by decide) k_x rfl rfl (Nat.le_of_ble_eq_true rfl) hc (fun C h1 z => ?_) (fun _ _ z => z.elim)
  obtain ⟨rfl, q⟩ := z
  refine ⟨_, hc_LW_daysUntilClosed_1, fun q => ?_⟩
  refine g_astore_n (pc := 12) (lv' := [(3, .ref q), (0, .ref x), (1, .int y0), (2, .ref out)]) d_LW_daysUntilClosed_12 rfl (by decide) rfl ?_
  refine g_iconst (pc := 13) (v := 1) d_LW_daysUntilClosed_13 (by decide) ?_
  refine g_iret (pc := 14) d_LW_daysUntilClosed_14 rfl ?_
  exact ⟨rfl, by assumption⟩
theorem ws_writeShop {E : En} {h : Hp} {x out kz nz : Nat} {y0 : Int32} {Q : Int32 → Hp → Prop} (k_x : hK h x = 1) (hq : ∀ z h9, Q z h9 → hK h9 out = 24 ∧ hL h9 out = 1) (hc : CT E m_HS_writeShop [.ref x, .int y0] h kz nz (fun v h1 => ∃ z, v = some (.int z) ∧ Q z h1) noX) (hk : kz ≤ 11) (hn : nz ≤ 156) : CT E m_LW_writeShop [.ref x, .int y0, .ref out] h 11 156 (fun v h1 => v = some (.int 0) ∧ ∃ z h9, Q z h9 ∧ h1 = sJ h9 out 0 z.toInt64) noX := by
  refine ct_ofH (by decide) (by decide +kernel) (Nat.le_of_ble_eq_true rfl) ?_
  show G E m_LW_writeShop 0 [(0, .ref x), (1, .int y0), (2, .ref out)] [] h 11 156 _ noX
  refine g_less hk hn ?_
  show G E m_LW_writeShop 0 [(0, .ref x), (1, .int y0), (2, .ref out)] [] h kz nz _ noX
  rw [← Nat.zero_add kz, ← Nat.zero_add nz]
  refine g_aload_n (pc := 0) d_LW_writeShop_0 rfl 2 rfl ?_
  refine g_iconst (pc := 1) (v := 0) d_LW_writeShop_1 (by decide) ?_
  refine g_aload_n (pc := 2) d_LW_writeShop_2 rfl 0 rfl ?_
  refine g_iload_n (pc := 3) d_LW_writeShop_3 rfl 1 rfl ?_
  refine g_callVH (k := 0) (n := 0) (pc := 4) (ci := 0) (As := [.int _]) d_LW_writeShop_4 mv_HS_writeShop st_LW_writeShop_158 rfl rfl (by decide) k_x rfl rfl (Nat.le_of_ble_eq_true rfl) hc (fun _ _ z => z.elim) (fun v h1 z => ?_)
  obtain ⟨z, rfl, q⟩ := z
  obtain ⟨k_out, l_out⟩ := hq z h1 q
  refine g_i2l (pc := 7) d_LW_writeShop_7 ?_
  refine g_lastore (pc := 8) d_LW_writeShop_8 k_out (by rw [l_out]; exact vp_in_nI (n := 0) (N := 1) (by decide) (by decide)) ?_
  refine g_goto (pc := 9) (tgt := 15) d_LW_writeShop_9 (by decide) ?_
  refine g_iconst (pc := 15) (v := 0) d_LW_writeShop_15 (by decide) ?_
  refine g_iret (pc := 16) d_LW_writeShop_16 rfl ?_
  exact ⟨rfl, z, h1, q, rfl⟩
theorem we_writeShop_1 {E : En} {h : Hp} {x out kz nz : Nat} {y0 : Int32} {Q : Hp → Prop} (k_x : hK h x = 1) (hc : CT E m_HS_writeShop [.ref x, .int y0] h kz nz (fun _ _ => False) (fun C h1 => C = "java/lang/IndexOutOfBoundsException" ∧ Q h1)) (hk : kz ≤ 11) (hn : nz ≤ 156) : CT E m_LW_writeShop [.ref x, .int y0, .ref out] h 11 156 (fun v h1 => v = some (.int 1) ∧ Q h1) noX := by
  refine ct_ofH (by decide) (by decide +kernel) (Nat.le_of_ble_eq_true rfl) ?_
  show G E m_LW_writeShop 0 [(0, .ref x), (1, .int y0), (2, .ref out)] [] h 11 156 _ noX
  refine g_less hk hn ?_
  show G E m_LW_writeShop 0 [(0, .ref x), (1, .int y0), (2, .ref out)] [] h kz nz _ noX
  rw [← Nat.zero_add kz, ← Nat.zero_add nz]
  refine g_aload_n (pc := 0) d_LW_writeShop_0 rfl 2 rfl ?_
  refine g_iconst (pc := 1) (v := 0) d_LW_writeShop_1 (by decide) ?_
  refine g_aload_n (pc := 2) d_LW_writeShop_2 rfl 0 rfl ?_
  refine g_iload_n (pc := 3) d_LW_writeShop_3 rfl 1 rfl ?_
  refine g_callVH (k := 0) (n := 0) (pc := 4) (ci := 0) (As := [.int _]) d_LW_writeShop_4 mv_HS_writeShop st_LW_writeShop_158 rfl rfl (by decide) k_x rfl rfl (Nat.le_of_ble_eq_true rfl) hc (fun C h1 z => ?_) (fun _ _ z => z.elim)
  obtain ⟨rfl, q⟩ := z
  refine ⟨_, hc_LW_writeShop_1, fun q => ?_⟩
  refine g_astore_n (pc := 12) (lv' := [(3, .ref q), (0, .ref x), (1, .int y0), (2, .ref out)]) d_LW_writeShop_12 rfl (by decide) rfl ?_
  refine g_iconst (pc := 13) (v := 1) d_LW_writeShop_13 (by decide) ?_
  refine g_iret (pc := 14) d_LW_writeShop_14 rfl ?_
  exact ⟨rfl, by assumption⟩
