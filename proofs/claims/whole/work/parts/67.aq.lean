/-! ANSWERS: questions -/
theorem an_day {E : En} {h : Hp} {A γ : Nat → Nat} {s : Sv} {i : Nat} (L : LI h A γ s i) (hi : i ≤ 512) : AnsD E m_HS_day m_MO_day [] h A i := by
  obtain ⟨nw, sc, ni, U, b, sp, B, d, ⟨k_x, r_x_2, r_x_3⟩, ⟨hB, hN, hD⟩, vb, hw, w0, hG, hP, hU⟩ := L.now
  have n6 := hG.1.2.1
  have s8 := hG.1.2.2.2.1
  have nd := L.1.2.2.1.nd2
  have u9 : U ≤ 266240 := by omega
  exact q_dir L d n6 s8 r_x_3 (c_same (by have k := cs_HS_day (E := E) k_x r_x_2 hB hG ; rw [hw] at k; exact k)) (fun h1 c g hM g12 => m_same (cm_MO_day hM nd hG ))
theorem an_weightCount {E : En} {h : Hp} {A γ : Nat → Nat} {s : Sv} {i : Nat} (L : LI h A γ s i) (hi : i ≤ 512) : AnsD E m_HS_weightCount m_MO_weightCount [] h A i := by
  obtain ⟨nw, sc, ni, U, b, sp, B, d, ⟨k_x, r_x_2, r_x_3⟩, ⟨hB, hN, hD⟩, vb, hw, w0, hG, hP, hU⟩ := L.now
  have n6 := hG.1.2.1
  have s8 := hG.1.2.2.2.1
  have nd := L.1.2.2.1.nd2
  have u9 : U ≤ 266240 := by omega
  exact q_dir L d n6 s8 r_x_3 (c_same (by have k := cs_HS_weightCount (E := E) k_x r_x_2 hB hG ; rw [hw] at k; exact k)) (fun h1 c g hM g12 => m_same (cm_MO_weightCount hM nd hG ))
theorem an_fee {E : En} {h : Hp} {A γ : Nat → Nat} {s : Sv} {i : Nat} (L : LI h A γ s i) (hi : i ≤ 512) : AnsD E m_HS_fee m_MO_fee [] h A i := by
  obtain ⟨nw, sc, ni, U, b, sp, B, d, ⟨k_x, r_x_2, r_x_3⟩, ⟨hB, hN, hD⟩, vb, hw, w0, hG, hP, hU⟩ := L.now
  have n6 := hG.1.2.1
  have s8 := hG.1.2.2.2.1
  have nd := L.1.2.2.1.nd2
  have u9 : U ≤ 266240 := by omega
  exact q_dir L d n6 s8 r_x_3 (c_same (by have k := cs_HS_fee (E := E) k_x r_x_2 hB hG ; rw [hw] at k; exact k)) (fun h1 c g hM g12 => m_same (cm_MO_fee hM nd hG ))
theorem an_inspectors {E : En} {h : Hp} {A γ : Nat → Nat} {s : Sv} {i : Nat} (L : LI h A γ s i) (hi : i ≤ 512) : AnsD E m_HS_inspectors m_MO_inspectors [] h A i := by
  obtain ⟨nw, sc, ni, U, b, sp, B, d, ⟨k_x, r_x_2, r_x_3⟩, ⟨hB, hN, hD⟩, vb, hw, w0, hG, hP, hU⟩ := L.now
  have n6 := hG.1.2.1
  have s8 := hG.1.2.2.2.1
  have nd := L.1.2.2.1.nd2
  have u9 : U ≤ 266240 := by omega
  exact q_dir L d n6 s8 r_x_3 (c_same (by have k := cs_HS_inspectors (E := E) k_x r_x_2 hB hG ; rw [hw] at k; exact k)) (fun h1 c g hM g12 => m_same (cm_MO_inspectors hM nd hG ))
theorem an_seed {E : En} {h : Hp} {A γ : Nat → Nat} {s : Sv} {i : Nat} (L : LI h A γ s i) (hi : i ≤ 512) : AnsD E m_HS_seed m_MO_seed [] h A i := by
  obtain ⟨nw, sc, ni, U, b, sp, B, d, ⟨k_x, r_x_2, r_x_3⟩, ⟨hB, hN, hD⟩, vb, hw, w0, hG, hP, hU⟩ := L.now
  have n6 := hG.1.2.1
  have s8 := hG.1.2.2.2.1
  have nd := L.1.2.2.1.nd2
  have u9 : U ≤ 266240 := by omega
  exact q_dir L d n6 s8 r_x_3 (c_same (by have k := cs_HS_seed (E := E) k_x r_x_2 hB hG ; rw [hw] at k; exact k)) (fun h1 c g hM g12 => m_same (cm_MO_seed hM nd hG ))
theorem an_bureauCoins {E : En} {h : Hp} {A γ : Nat → Nat} {s : Sv} {i : Nat} (L : LI h A γ s i) (hi : i ≤ 512) : AnsD E m_HS_bureauCoins m_MO_bureauCoins [] h A i := by
  obtain ⟨nw, sc, ni, U, b, sp, B, d, ⟨k_x, r_x_2, r_x_3⟩, ⟨hB, hN, hD⟩, vb, hw, w0, hG, hP, hU⟩ := L.now
  have n6 := hG.1.2.1
  have s8 := hG.1.2.2.2.1
  have nd := L.1.2.2.1.nd2
  have u9 : U ≤ 266240 := by omega
  exact q_dir L d n6 s8 r_x_3 (c_same (by have k := cs_HS_bureauCoins (E := E) k_x r_x_2 hB hG ; rw [hw] at k; exact k)) (fun h1 c g hM g12 => m_same (cm_MO_bureauCoins hM nd hG ))
theorem an_visits {E : En} {h : Hp} {A γ : Nat → Nat} {s : Sv} {i : Nat} (L : LI h A γ s i) (hi : i ≤ 512) : AnsD E m_HS_visits m_MO_visits [] h A i := by
  obtain ⟨nw, sc, ni, U, b, sp, B, d, ⟨k_x, r_x_2, r_x_3⟩, ⟨hB, hN, hD⟩, vb, hw, w0, hG, hP, hU⟩ := L.now
  have n6 := hG.1.2.1
  have s8 := hG.1.2.2.2.1
  have nd := L.1.2.2.1.nd2
  have u9 : U ≤ 266240 := by omega
  exact q_dir L d n6 s8 r_x_3 (c_same (by have k := cs_HS_visits (E := E) k_x r_x_2 hB hG ; rw [hw] at k; exact k)) (fun h1 c g hM g12 => m_same (cm_MO_visits hM nd hG ))
theorem an_shopCount {E : En} {h : Hp} {A γ : Nat → Nat} {s : Sv} {i : Nat} (L : LI h A γ s i) (hi : i ≤ 512) : AnsD E m_HS_shopCount m_MO_shopCount [] h A i := by
  obtain ⟨nw, sc, ni, U, b, sp, B, d, ⟨k_x, r_x_2, r_x_3⟩, ⟨hB, hN, hD⟩, vb, hw, w0, hG, hP, hU⟩ := L.now
  have n6 := hG.1.2.1
  have s8 := hG.1.2.2.2.1
  have nd := L.1.2.2.1.nd2
  have u9 : U ≤ 266240 := by omega
  exact q_dir L d n6 s8 r_x_3 (c_same (by have k := cs_HS_shopCount (E := E) k_x r_x_2 hB hG ; rw [hw] at k; exact k)) (fun h1 c g hM g12 => m_same (cm_MO_shopCount hM nd hG ))
theorem an_openShops {E : En} {h : Hp} {A γ : Nat → Nat} {s : Sv} {i : Nat} (L : LI h A γ s i) (hi : i ≤ 512) : AnsD E m_HS_openShops m_MO_openShops [] h A i := by
  obtain ⟨nw, sc, ni, U, b, sp, B, d, ⟨k_x, r_x_2, r_x_3⟩, ⟨hB, hN, hD⟩, vb, hw, w0, hG, hP, hU⟩ := L.now
  have n6 := hG.1.2.1
  have s8 := hG.1.2.2.2.1
  have nd := L.1.2.2.1.nd2
  have u9 : U ≤ 266240 := by omega
  exact q_dir L d n6 s8 r_x_3 (c_same (by have k := cs_HS_openShops (E := E) k_x r_x_2 hB hG ; rw [hw] at k; exact k)) (fun h1 c g hM g12 => m_same (cm_MO_openShops hM nd hG ))
theorem an_mostFined {E : En} {h : Hp} {A γ : Nat → Nat} {s : Sv} {i : Nat} (L : LI h A γ s i) (hi : i ≤ 512) : AnsD E m_HS_mostFined m_MO_mostFined [] h A i := by
  obtain ⟨nw, sc, ni, U, b, sp, B, d, ⟨k_x, r_x_2, r_x_3⟩, ⟨hB, hN, hD⟩, vb, hw, w0, hG, hP, hU⟩ := L.now
  have n6 := hG.1.2.1
  have s8 := hG.1.2.2.2.1
  have nd := L.1.2.2.1.nd2
  have u9 : U ≤ 266240 := by omega
  exact q_dir L d n6 s8 r_x_3 (c_same (by have k := cs_HS_mostFined (E := E) k_x r_x_2 hB hG ; rw [hw] at k; exact k)) (fun h1 c g hM g12 => m_same (cm_MO_mostFined hM nd hG ))
theorem an_coinError {E : En} {h : Hp} {A γ : Nat → Nat} {s : Sv} {i : Nat} (L : LI h A γ s i) (hi : i ≤ 512) : AnsD E m_HS_coinError m_MO_coinError [] h A i := by
  obtain ⟨nw, sc, ni, U, b, sp, B, d, ⟨k_x, r_x_2, r_x_3⟩, ⟨hB, hN, hD⟩, vb, hw, w0, hG, hP, hU⟩ := L.now
  have n6 := hG.1.2.1
  have s8 := hG.1.2.2.2.1
  have nd := L.1.2.2.1.nd2
  have u9 : U ≤ 266240 := by omega
  exact q_dir L d n6 s8 r_x_3 (c_same (by have k := cs_HS_coinError (E := E) k_x r_x_2 hB hG ; rw [hw] at k; exact k)) (fun h1 c g hM g12 => m_same (by have k := cm_MO_coinError (E := E) (c := c) (g := g) hM nd hG; rw [g12] at k; exact k))
theorem an_shopAtRank {E : En} {h : Hp} {A γ : Nat → Nat} {s : Sv} {i : Nat} {v : Int32} (L : LI h A γ s i) (hi : i ≤ 512) : AnsD E m_HS_shopAtRank m_MO_shopAtRank [.int v] h A i := by
  obtain ⟨nw, sc, ni, U, b, sp, B, d, ⟨k_x, r_x_2, r_x_3⟩, ⟨hB, hN, hD⟩, vb, hw, w0, hG, hP, hU⟩ := L.now
  have n6 := hG.1.2.1
  have s8 := hG.1.2.2.2.1
  have nd := L.1.2.2.1.nd2
  have u9 : U ≤ 266240 := by omega
  exact q_dir L d n6 s8 r_x_3 (c_same (by have k := cs_HS_shopAtRank (E := E) k_x r_x_2 hB hG (yv := v); rw [hw] at k; exact k)) (fun h1 c g hM g12 => m_same (cm_MO_shopAtRank hM nd hG (by omega)))
theorem an_nextVisited {E : En} {h : Hp} {A γ : Nat → Nat} {s : Sv} {i : Nat} (L : LI h A γ s i) (hi : i ≤ 512) : AnsD E m_HS_nextVisited m_MO_nextVisited [] h A i := by
  obtain ⟨nw, sc, ni, U, b, sp, B, d, ⟨k_x, r_x_2, r_x_3⟩, ⟨hB, hN, hD⟩, vb, hw, w0, hG, hP, hU⟩ := L.now
  have n6 := hG.1.2.1
  have s8 := hG.1.2.2.2.1
  have nd := L.1.2.2.1.nd2
  have u9 : U ≤ 266240 := by omega
  by_cases hn0 : B.1 5 = 0
  · exact q_dir L d n6 s8 r_x_3 (c_same (by have k := cs_HS_nextVisitedZ (E := E) k_x r_x_2 hB hG hn0; rw [hw] at k; exact k)) (fun h1 c g hM g12 => m_same (cm_MO_nextVisitedZ hM nd hG hn0))
  · exact q_dir L d n6 s8 r_x_3 (c_spare (by have k := cs_HS_nextVisited (E := E) k_x r_x_2 r_x_3 hB hN hD (by rw [vb]; exact hG) rfl (by rw [vb]; exact hn0) (by omega); rw [vb] at k; exact k)) (fun h1 c g hM g12 => (by
      have k := cm_MO_nextVisited (E := E) (B := (P_copy nw sc (vB h sp) B)) (g := g) (c := c) hM nd (Gd_copy hG) (by omega) (by rw [P_copy_c (by decide)]; exact hn0)
      simp only [enc_copy] at k
      exact m_12 n6 s8 k))
theorem an_offset {E : En} {h : Hp} {A γ : Nat → Nat} {s : Sv} {i : Nat} {v : Int32} (hE : (eL E).stackTraces = false) (L : LI h A γ s i) (hi : i ≤ 512) : AnsW E m_LW_offset m_MO_offset fI [.int v] h A i := by
  obtain ⟨nw, sc, ni, U, b, sp, B, d, ⟨k_x, r_x_2, r_x_3⟩, ⟨hB, hN, hD⟩, vb, hw, w0, hG, hP, hU⟩ := L.now
  have n6 := hG.1.2.1
  have s8 := hG.1.2.2.2.1
  have nd := L.1.2.2.1.nd2
  have u9 : U ≤ 266240 := by omega
  rcases shop_dec sc s8 v with ⟨j, hj, rfl⟩ | hv
  · exact q_ok L d n6 s8 r_x_3 (fun hq hc => ws_offset k_x hq hc (by decide) (by decide)) (c_same (by have k := cs_HS_offset (E := E) k_x r_x_2 hB hG hj; rw [hw] at k; exact k)) (fun h1 c g hM g12 => m_same (cm_MO_offset hM nd hG hj))
  · exact q_er (code := 1) L d n6 s8 (by decide) rfl (fun hc => we_offset_1 k_x hc (by decide) (by decide)) (by have k := ce_HS_offsetN (E := E) hE k_x r_x_2 hB hG hv; rw [hw] at k; exact k) (fun h1 c g hM => m_same (cm_MO_offsetN hM nd hG hv))
theorem an_slope {E : En} {h : Hp} {A γ : Nat → Nat} {s : Sv} {i : Nat} {v : Int32} (hE : (eL E).stackTraces = false) (L : LI h A γ s i) (hi : i ≤ 512) : AnsW E m_LW_slope m_MO_slope fI [.int v] h A i := by
  obtain ⟨nw, sc, ni, U, b, sp, B, d, ⟨k_x, r_x_2, r_x_3⟩, ⟨hB, hN, hD⟩, vb, hw, w0, hG, hP, hU⟩ := L.now
  have n6 := hG.1.2.1
  have s8 := hG.1.2.2.2.1
  have nd := L.1.2.2.1.nd2
  have u9 : U ≤ 266240 := by omega
  rcases shop_dec sc s8 v with ⟨j, hj, rfl⟩ | hv
  · exact q_ok L d n6 s8 r_x_3 (fun hq hc => ws_slope k_x hq hc (by decide) (by decide)) (c_same (by have k := cs_HS_slope (E := E) k_x r_x_2 hB hG hj; rw [hw] at k; exact k)) (fun h1 c g hM g12 => m_same (cm_MO_slope hM nd hG hj))
  · exact q_er (code := 1) L d n6 s8 (by decide) rfl (fun hc => we_slope_1 k_x hc (by decide) (by decide)) (by have k := ce_HS_slopeN (E := E) hE k_x r_x_2 hB hG hv; rw [hw] at k; exact k) (fun h1 c g hM => m_same (cm_MO_slopeN hM nd hG hv))
theorem an_drift {E : En} {h : Hp} {A γ : Nat → Nat} {s : Sv} {i : Nat} {v : Int32} (hE : (eL E).stackTraces = false) (L : LI h A γ s i) (hi : i ≤ 512) : AnsW E m_LW_drift m_MO_drift fI [.int v] h A i := by
  obtain ⟨nw, sc, ni, U, b, sp, B, d, ⟨k_x, r_x_2, r_x_3⟩, ⟨hB, hN, hD⟩, vb, hw, w0, hG, hP, hU⟩ := L.now
  have n6 := hG.1.2.1
  have s8 := hG.1.2.2.2.1
  have nd := L.1.2.2.1.nd2
  have u9 : U ≤ 266240 := by omega
  rcases shop_dec sc s8 v with ⟨j, hj, rfl⟩ | hv
  · exact q_ok L d n6 s8 r_x_3 (fun hq hc => ws_drift k_x hq hc (by decide) (by decide)) (c_same (by have k := cs_HS_drift (E := E) k_x r_x_2 hB hG hj; rw [hw] at k; exact k)) (fun h1 c g hM g12 => m_same (cm_MO_drift hM nd hG hj))
  · exact q_er (code := 1) L d n6 s8 (by decide) rfl (fun hc => we_drift_1 k_x hc (by decide) (by decide)) (by have k := ce_HS_driftN (E := E) hE k_x r_x_2 hB hG hv; rw [hw] at k; exact k) (fun h1 c g hM => m_same (cm_MO_driftN hM nd hG hv))
theorem an_totalExcess {E : En} {h : Hp} {A γ : Nat → Nat} {s : Sv} {i : Nat} {v : Int32} (hE : (eL E).stackTraces = false) (L : LI h A γ s i) (hi : i ≤ 512) : AnsW E m_LW_totalExcess m_MO_totalExcess fI [.int v] h A i := by
  obtain ⟨nw, sc, ni, U, b, sp, B, d, ⟨k_x, r_x_2, r_x_3⟩, ⟨hB, hN, hD⟩, vb, hw, w0, hG, hP, hU⟩ := L.now
  have n6 := hG.1.2.1
  have s8 := hG.1.2.2.2.1
  have nd := L.1.2.2.1.nd2
  have u9 : U ≤ 266240 := by omega
  rcases shop_dec sc s8 v with ⟨j, hj, rfl⟩ | hv
  · exact q_ok L d n6 s8 r_x_3 (fun hq hc => ws_totalExcess k_x hq hc (by decide) (by decide)) (c_same (by have k := cs_HS_totalExcess (E := E) k_x r_x_2 hB hG hj; rw [hw] at k; exact k)) (fun h1 c g hM g12 => m_same (cm_MO_totalExcess hM nd hG hj))
  · exact q_er (code := 1) L d n6 s8 (by decide) rfl (fun hc => we_totalExcess_1 k_x hc (by decide) (by decide)) (by have k := ce_HS_totalExcessN (E := E) hE k_x r_x_2 hB hG hv; rw [hw] at k; exact k) (fun h1 c g hM => m_same (cm_MO_totalExcessN hM nd hG hv))
theorem an_isTrue {E : En} {h : Hp} {A γ : Nat → Nat} {s : Sv} {i : Nat} {v : Int32} (hE : (eL E).stackTraces = false) (L : LI h A γ s i) (hi : i ≤ 512) : AnsW E m_LW_isTrue m_MO_isTrue fZ [.int v] h A i := by
  obtain ⟨nw, sc, ni, U, b, sp, B, d, ⟨k_x, r_x_2, r_x_3⟩, ⟨hB, hN, hD⟩, vb, hw, w0, hG, hP, hU⟩ := L.now
  have n6 := hG.1.2.1
  have s8 := hG.1.2.2.2.1
  have nd := L.1.2.2.1.nd2
  have u9 : U ≤ 266240 := by omega
  rcases shop_dec sc s8 v with ⟨j, hj, rfl⟩ | hv
  · exact q_ok L d n6 s8 r_x_3 (fun hq hc => ws_isTrue k_x hq hc (by decide) (by decide)) (c_same (by have k := cs_HS_isTrue (E := E) k_x r_x_2 hB hG hj; rw [hw] at k; exact k)) (fun h1 c g hM g12 => m_same (cm_MO_isTrue hM nd hG hj))
  · exact q_er (code := 1) L d n6 s8 (by decide) rfl (fun hc => we_isTrue_1 k_x hc (by decide) (by decide)) (by have k := ce_HS_isTrueN (E := E) hE k_x r_x_2 hB hG hv; rw [hw] at k; exact k) (fun h1 c g hM => m_same (cm_MO_isTrueN hM nd hG hv))
theorem an_worstWeight {E : En} {h : Hp} {A γ : Nat → Nat} {s : Sv} {i : Nat} {v : Int32} (hE : (eL E).stackTraces = false) (L : LI h A γ s i) (hi : i ≤ 512) : AnsW E m_LW_worstWeight m_MO_worstWeight fI [.int v] h A i := by
  obtain ⟨nw, sc, ni, U, b, sp, B, d, ⟨k_x, r_x_2, r_x_3⟩, ⟨hB, hN, hD⟩, vb, hw, w0, hG, hP, hU⟩ := L.now
  have n6 := hG.1.2.1
  have s8 := hG.1.2.2.2.1
  have nd := L.1.2.2.1.nd2
  have u9 : U ≤ 266240 := by omega
  rcases shop_dec sc s8 v with ⟨j, hj, rfl⟩ | hv
  · exact q_ok L d n6 s8 r_x_3 (fun hq hc => ws_worstWeight k_x hq hc (by decide) (by decide)) (c_same (by have k := cs_HS_worstWeight (E := E) k_x r_x_2 hB hG hj; rw [hw] at k; exact k)) (fun h1 c g hM g12 => m_same (cm_MO_worstWeight hM nd hG hj))
  · exact q_er (code := 1) L d n6 s8 (by decide) rfl (fun hc => we_worstWeight_1 k_x hc (by decide) (by decide)) (by have k := ce_HS_worstWeightN (E := E) hE k_x r_x_2 hB hG hv; rw [hw] at k; exact k) (fun h1 c g hM => m_same (cm_MO_worstWeightN hM nd hG hv))
theorem an_stampedUntil {E : En} {h : Hp} {A γ : Nat → Nat} {s : Sv} {i : Nat} {v : Int32} (hE : (eL E).stackTraces = false) (L : LI h A γ s i) (hi : i ≤ 512) : AnsW E m_LW_stampedUntil m_MO_stampedUntil fI [.int v] h A i := by
  obtain ⟨nw, sc, ni, U, b, sp, B, d, ⟨k_x, r_x_2, r_x_3⟩, ⟨hB, hN, hD⟩, vb, hw, w0, hG, hP, hU⟩ := L.now
  have n6 := hG.1.2.1
  have s8 := hG.1.2.2.2.1
  have nd := L.1.2.2.1.nd2
  have u9 : U ≤ 266240 := by omega
  rcases shop_dec sc s8 v with ⟨j, hj, rfl⟩ | hv
  · exact q_ok L d n6 s8 r_x_3 (fun hq hc => ws_stampedUntil k_x hq hc (by decide) (by decide)) (c_same (by have k := cs_HS_stampedUntil (E := E) k_x r_x_2 hB hG hj; rw [hw] at k; exact k)) (fun h1 c g hM g12 => m_same (cm_MO_stampedUntil hM nd hG hj))
  · exact q_er (code := 1) L d n6 s8 (by decide) rfl (fun hc => we_stampedUntil_1 k_x hc (by decide) (by decide)) (by have k := ce_HS_stampedUntilN (E := E) hE k_x r_x_2 hB hG hv; rw [hw] at k; exact k) (fun h1 c g hM => m_same (cm_MO_stampedUntilN hM nd hG hv))
theorem an_isStamped {E : En} {h : Hp} {A γ : Nat → Nat} {s : Sv} {i : Nat} {v : Int32} (hE : (eL E).stackTraces = false) (L : LI h A γ s i) (hi : i ≤ 512) : AnsW E m_LW_isStamped m_MO_isStamped fZ [.int v] h A i := by
  obtain ⟨nw, sc, ni, U, b, sp, B, d, ⟨k_x, r_x_2, r_x_3⟩, ⟨hB, hN, hD⟩, vb, hw, w0, hG, hP, hU⟩ := L.now
  have n6 := hG.1.2.1
  have s8 := hG.1.2.2.2.1
  have nd := L.1.2.2.1.nd2
  have u9 : U ≤ 266240 := by omega
  rcases shop_dec sc s8 v with ⟨j, hj, rfl⟩ | hv
  · exact q_ok L d n6 s8 r_x_3 (fun hq hc => ws_isStamped k_x hq hc (by decide) (by decide)) (c_same (by have k := cs_HS_isStamped (E := E) k_x r_x_2 hB hG hj; rw [hw] at k; exact k)) (fun h1 c g hM g12 => m_same (cm_MO_isStamped hM nd hG hj))
  · exact q_er (code := 1) L d n6 s8 (by decide) rfl (fun hc => we_isStamped_1 k_x hc (by decide) (by decide)) (by have k := ce_HS_isStampedN (E := E) hE k_x r_x_2 hB hG hv; rw [hw] at k; exact k) (fun h1 c g hM => m_same (cm_MO_isStampedN hM nd hG hv))
theorem an_isOpen {E : En} {h : Hp} {A γ : Nat → Nat} {s : Sv} {i : Nat} {v : Int32} (hE : (eL E).stackTraces = false) (L : LI h A γ s i) (hi : i ≤ 512) : AnsW E m_LW_isOpen m_MO_isOpen fZ [.int v] h A i := by
  obtain ⟨nw, sc, ni, U, b, sp, B, d, ⟨k_x, r_x_2, r_x_3⟩, ⟨hB, hN, hD⟩, vb, hw, w0, hG, hP, hU⟩ := L.now
  have n6 := hG.1.2.1
  have s8 := hG.1.2.2.2.1
  have nd := L.1.2.2.1.nd2
  have u9 : U ≤ 266240 := by omega
  rcases shop_dec sc s8 v with ⟨j, hj, rfl⟩ | hv
  · exact q_ok L d n6 s8 r_x_3 (fun hq hc => ws_isOpen k_x hq hc (by decide) (by decide)) (c_same (by have k := cs_HS_isOpen (E := E) k_x r_x_2 hB hG hj; rw [hw] at k; exact k)) (fun h1 c g hM g12 => m_same (cm_MO_isOpen hM nd hG hj))
  · exact q_er (code := 1) L d n6 s8 (by decide) rfl (fun hc => we_isOpen_1 k_x hc (by decide) (by decide)) (by have k := ce_HS_isOpenN (E := E) hE k_x r_x_2 hB hG hv; rw [hw] at k; exact k) (fun h1 c g hM => m_same (cm_MO_isOpenN hM nd hG hv))
theorem an_purse {E : En} {h : Hp} {A γ : Nat → Nat} {s : Sv} {i : Nat} {v : Int32} (hE : (eL E).stackTraces = false) (L : LI h A γ s i) (hi : i ≤ 512) : AnsW E m_LW_purse m_MO_purse fI [.int v] h A i := by
  obtain ⟨nw, sc, ni, U, b, sp, B, d, ⟨k_x, r_x_2, r_x_3⟩, ⟨hB, hN, hD⟩, vb, hw, w0, hG, hP, hU⟩ := L.now
  have n6 := hG.1.2.1
  have s8 := hG.1.2.2.2.1
  have nd := L.1.2.2.1.nd2
  have u9 : U ≤ 266240 := by omega
  rcases shop_dec sc s8 v with ⟨j, hj, rfl⟩ | hv
  · exact q_ok L d n6 s8 r_x_3 (fun hq hc => ws_purse k_x hq hc (by decide) (by decide)) (c_same (by have k := cs_HS_purse (E := E) k_x r_x_2 hB hG hj; rw [hw] at k; exact k)) (fun h1 c g hM g12 => m_same (cm_MO_purse hM nd hG hj))
  · exact q_er (code := 1) L d n6 s8 (by decide) rfl (fun hc => we_purse_1 k_x hc (by decide) (by decide)) (by have k := ce_HS_purseN (E := E) hE k_x r_x_2 hB hG hv; rw [hw] at k; exact k) (fun h1 c g hM => m_same (cm_MO_purseN hM nd hG hv))
theorem an_thumb {E : En} {h : Hp} {A γ : Nat → Nat} {s : Sv} {i : Nat} {v : Int32} (hE : (eL E).stackTraces = false) (L : LI h A γ s i) (hi : i ≤ 512) : AnsW E m_LW_thumb m_MO_thumb fI [.int v] h A i := by
  obtain ⟨nw, sc, ni, U, b, sp, B, d, ⟨k_x, r_x_2, r_x_3⟩, ⟨hB, hN, hD⟩, vb, hw, w0, hG, hP, hU⟩ := L.now
  have n6 := hG.1.2.1
  have s8 := hG.1.2.2.2.1
  have nd := L.1.2.2.1.nd2
  have u9 : U ≤ 266240 := by omega
  rcases shop_dec sc s8 v with ⟨j, hj, rfl⟩ | hv
  · exact q_ok L d n6 s8 r_x_3 (fun hq hc => ws_thumb k_x hq hc (by decide) (by decide)) (c_same (by have k := cs_HS_thumb (E := E) k_x r_x_2 hB hG hj; rw [hw] at k; exact k)) (fun h1 c g hM g12 => m_same (cm_MO_thumb hM nd hG hj))
  · exact q_er (code := 1) L d n6 s8 (by decide) rfl (fun hc => we_thumb_1 k_x hc (by decide) (by decide)) (by have k := ce_HS_thumbN (E := E) hE k_x r_x_2 hB hG hv; rw [hw] at k; exact k) (fun h1 c g hM => m_same (cm_MO_thumbN hM nd hG hv))
theorem an_complaints {E : En} {h : Hp} {A γ : Nat → Nat} {s : Sv} {i : Nat} {v : Int32} (hE : (eL E).stackTraces = false) (L : LI h A γ s i) (hi : i ≤ 512) : AnsW E m_LW_complaints m_MO_complaints fI [.int v] h A i := by
  obtain ⟨nw, sc, ni, U, b, sp, B, d, ⟨k_x, r_x_2, r_x_3⟩, ⟨hB, hN, hD⟩, vb, hw, w0, hG, hP, hU⟩ := L.now
  have n6 := hG.1.2.1
  have s8 := hG.1.2.2.2.1
  have nd := L.1.2.2.1.nd2
  have u9 : U ≤ 266240 := by omega
  rcases shop_dec sc s8 v with ⟨j, hj, rfl⟩ | hv
  · exact q_ok L d n6 s8 r_x_3 (fun hq hc => ws_complaints k_x hq hc (by decide) (by decide)) (c_same (by have k := cs_HS_complaints (E := E) k_x r_x_2 hB hG hj; rw [hw] at k; exact k)) (fun h1 c g hM g12 => m_same (cm_MO_complaints hM nd hG hj))
  · exact q_er (code := 1) L d n6 s8 (by decide) rfl (fun hc => we_complaints_1 k_x hc (by decide) (by decide)) (by have k := ce_HS_complaintsN (E := E) hE k_x r_x_2 hB hG hv; rw [hw] at k; exact k) (fun h1 c g hM => m_same (cm_MO_complaintsN hM nd hG hv))
theorem an_failures {E : En} {h : Hp} {A γ : Nat → Nat} {s : Sv} {i : Nat} {v : Int32} (hE : (eL E).stackTraces = false) (L : LI h A γ s i) (hi : i ≤ 512) : AnsW E m_LW_failures m_MO_failures fI [.int v] h A i := by
  obtain ⟨nw, sc, ni, U, b, sp, B, d, ⟨k_x, r_x_2, r_x_3⟩, ⟨hB, hN, hD⟩, vb, hw, w0, hG, hP, hU⟩ := L.now
  have n6 := hG.1.2.1
  have s8 := hG.1.2.2.2.1
  have nd := L.1.2.2.1.nd2
  have u9 : U ≤ 266240 := by omega
  rcases shop_dec sc s8 v with ⟨j, hj, rfl⟩ | hv
  · exact q_ok L d n6 s8 r_x_3 (fun hq hc => ws_failures k_x hq hc (by decide) (by decide)) (c_same (by have k := cs_HS_failures (E := E) k_x r_x_2 hB hG hj; rw [hw] at k; exact k)) (fun h1 c g hM g12 => m_same (cm_MO_failures hM nd hG hj))
  · exact q_er (code := 1) L d n6 s8 (by decide) rfl (fun hc => we_failures_1 k_x hc (by decide) (by decide)) (by have k := ce_HS_failuresN (E := E) hE k_x r_x_2 hB hG hv; rw [hw] at k; exact k) (fun h1 c g hM => m_same (cm_MO_failuresN hM nd hG hv))
theorem an_latestVisit {E : En} {h : Hp} {A γ : Nat → Nat} {s : Sv} {i : Nat} {v : Int32} (hE : (eL E).stackTraces = false) (L : LI h A γ s i) (hi : i ≤ 512) : AnsW E m_LW_latestVisit m_MO_latestVisit fI [.int v] h A i := by
  obtain ⟨nw, sc, ni, U, b, sp, B, d, ⟨k_x, r_x_2, r_x_3⟩, ⟨hB, hN, hD⟩, vb, hw, w0, hG, hP, hU⟩ := L.now
  have n6 := hG.1.2.1
  have s8 := hG.1.2.2.2.1
  have nd := L.1.2.2.1.nd2
  have u9 : U ≤ 266240 := by omega
  rcases shop_dec sc s8 v with ⟨j, hj, rfl⟩ | hv
  · exact q_ok L d n6 s8 r_x_3 (fun hq hc => ws_latestVisit k_x hq hc (by decide) (by decide)) (c_same (by have k := cs_HS_latestVisit (E := E) k_x r_x_2 hB hG hj; rw [hw] at k; exact k)) (fun h1 c g hM g12 => m_same (cm_MO_latestVisit hM nd hG hj))
  · exact q_er (code := 1) L d n6 s8 (by decide) rfl (fun hc => we_latestVisit_1 k_x hc (by decide) (by decide)) (by have k := ce_HS_latestVisitN (E := E) hE k_x r_x_2 hB hG hv; rw [hw] at k; exact k) (fun h1 c g hM => m_same (cm_MO_latestVisitN hM nd hG hv))
theorem an_finesOf {E : En} {h : Hp} {A γ : Nat → Nat} {s : Sv} {i : Nat} {v : Int32} (hE : (eL E).stackTraces = false) (L : LI h A γ s i) (hi : i ≤ 512) : AnsW E m_LW_finesOf m_MO_finesOf fI [.int v] h A i := by
  obtain ⟨nw, sc, ni, U, b, sp, B, d, ⟨k_x, r_x_2, r_x_3⟩, ⟨hB, hN, hD⟩, vb, hw, w0, hG, hP, hU⟩ := L.now
  have n6 := hG.1.2.1
  have s8 := hG.1.2.2.2.1
  have nd := L.1.2.2.1.nd2
  have u9 : U ≤ 266240 := by omega
  rcases shop_dec sc s8 v with ⟨j, hj, rfl⟩ | hv
  · exact q_ok L d n6 s8 r_x_3 (fun hq hc => ws_finesOf k_x hq hc (by decide) (by decide)) (c_same (by have k := cs_HS_finesOf (E := E) k_x r_x_2 hB hG hj; rw [hw] at k; exact k)) (fun h1 c g hM g12 => m_same (cm_MO_finesOf hM nd hG hj))
  · exact q_er (code := 1) L d n6 s8 (by decide) rfl (fun hc => we_finesOf_1 k_x hc (by decide) (by decide)) (by have k := ce_HS_finesOfN (E := E) hE k_x r_x_2 hB hG hv; rw [hw] at k; exact k) (fun h1 c g hM => m_same (cm_MO_finesOfN hM nd hG hv))
theorem an_gainsOf {E : En} {h : Hp} {A γ : Nat → Nat} {s : Sv} {i : Nat} {v : Int32} (hE : (eL E).stackTraces = false) (L : LI h A γ s i) (hi : i ≤ 512) : AnsW E m_LW_gainsOf m_MO_gainsOf fI [.int v] h A i := by
  obtain ⟨nw, sc, ni, U, b, sp, B, d, ⟨k_x, r_x_2, r_x_3⟩, ⟨hB, hN, hD⟩, vb, hw, w0, hG, hP, hU⟩ := L.now
  have n6 := hG.1.2.1
  have s8 := hG.1.2.2.2.1
  have nd := L.1.2.2.1.nd2
  have u9 : U ≤ 266240 := by omega
  rcases shop_dec sc s8 v with ⟨j, hj, rfl⟩ | hv
  · exact q_ok L d n6 s8 r_x_3 (fun hq hc => ws_gainsOf k_x hq hc (by decide) (by decide)) (c_same (by have k := cs_HS_gainsOf (E := E) k_x r_x_2 hB hG hj; rw [hw] at k; exact k)) (fun h1 c g hM g12 => m_same (cm_MO_gainsOf hM nd hG hj))
  · exact q_er (code := 1) L d n6 s8 (by decide) rfl (fun hc => we_gainsOf_1 k_x hc (by decide) (by decide)) (by have k := ce_HS_gainsOfN (E := E) hE k_x r_x_2 hB hG hv; rw [hw] at k; exact k) (fun h1 c g hM => m_same (cm_MO_gainsOfN hM nd hG hv))
theorem an_usesThumb {E : En} {h : Hp} {A γ : Nat → Nat} {s : Sv} {i : Nat} {v : Int32} (hE : (eL E).stackTraces = false) (L : LI h A γ s i) (hi : i ≤ 512) : AnsW E m_LW_usesThumb m_MO_usesThumb fZ [.int v] h A i := by
  obtain ⟨nw, sc, ni, U, b, sp, B, d, ⟨k_x, r_x_2, r_x_3⟩, ⟨hB, hN, hD⟩, vb, hw, w0, hG, hP, hU⟩ := L.now
  have n6 := hG.1.2.1
  have s8 := hG.1.2.2.2.1
  have nd := L.1.2.2.1.nd2
  have u9 : U ≤ 266240 := by omega
  rcases shop_dec sc s8 v with ⟨j, hj, rfl⟩ | hv
  · exact q_ok L d n6 s8 r_x_3 (fun hq hc => ws_usesThumb k_x hq hc (by decide) (by decide)) (c_same (by have k := cs_HS_usesThumb (E := E) k_x r_x_2 hB hG hj; rw [hw] at k; exact k)) (fun h1 c g hM g12 => m_same (cm_MO_usesThumb hM nd hG hj))
  · exact q_er (code := 1) L d n6 s8 (by decide) rfl (fun hc => we_usesThumb_1 k_x hc (by decide) (by decide)) (by have k := ce_HS_usesThumbN (E := E) hE k_x r_x_2 hB hG hv; rw [hw] at k; exact k) (fun h1 c g hM => m_same (cm_MO_usesThumbN hM nd hG hv))
theorem an_fineIfVisited {E : En} {h : Hp} {A γ : Nat → Nat} {s : Sv} {i : Nat} {v : Int32} (hE : (eL E).stackTraces = false) (L : LI h A γ s i) (hi : i ≤ 512) : AnsW E m_LW_fineIfVisited m_MO_fineIfVisited fI [.int v] h A i := by
  obtain ⟨nw, sc, ni, U, b, sp, B, d, ⟨k_x, r_x_2, r_x_3⟩, ⟨hB, hN, hD⟩, vb, hw, w0, hG, hP, hU⟩ := L.now
  have n6 := hG.1.2.1
  have s8 := hG.1.2.2.2.1
  have nd := L.1.2.2.1.nd2
  have u9 : U ≤ 266240 := by omega
  rcases shop_dec sc s8 v with ⟨j, hj, rfl⟩ | hv
  · exact q_ok L d n6 s8 r_x_3 (fun hq hc => ws_fineIfVisited k_x hq hc (by decide) (by decide)) (c_same (by have k := cs_HS_fineIfVisited (E := E) k_x r_x_2 hB hG hj; rw [hw] at k; exact k)) (fun h1 c g hM g12 => m_same (cm_MO_fineIfVisited hM nd hG hj))
  · exact q_er (code := 1) L d n6 s8 (by decide) rfl (fun hc => we_fineIfVisited_1 k_x hc (by decide) (by decide)) (by have k := ce_HS_fineIfVisitedN (E := E) hE k_x r_x_2 hB hG hv; rw [hw] at k; exact k) (fun h1 c g hM => m_same (cm_MO_fineIfVisitedN hM nd hG hv))
theorem an_whyFail {E : En} {h : Hp} {A γ : Nat → Nat} {s : Sv} {i : Nat} {v : Int32} (hE : (eL E).stackTraces = false) (L : LI h A γ s i) (hi : i ≤ 512) : AnsW E m_LW_whyFail m_MO_whyFail fI [.int v] h A i := by
  obtain ⟨nw, sc, ni, U, b, sp, B, d, ⟨k_x, r_x_2, r_x_3⟩, ⟨hB, hN, hD⟩, vb, hw, w0, hG, hP, hU⟩ := L.now
  have n6 := hG.1.2.1
  have s8 := hG.1.2.2.2.1
  have nd := L.1.2.2.1.nd2
  have u9 : U ≤ 266240 := by omega
  rcases shop_dec sc s8 v with ⟨j, hj, rfl⟩ | hv
  · exact q_ok L d n6 s8 r_x_3 (fun hq hc => ws_whyFail k_x hq hc (by decide) (by decide)) (c_same (by have k := cs_HS_whyFail (E := E) k_x r_x_2 hB hG hj; rw [hw] at k; exact k)) (fun h1 c g hM g12 => m_same (cm_MO_whyFail hM nd hG hj))
  · exact q_er (code := 1) L d n6 s8 (by decide) rfl (fun hc => we_whyFail_1 k_x hc (by decide) (by decide)) (by have k := ce_HS_whyFailN (E := E) hE k_x r_x_2 hB hG hv; rw [hw] at k; exact k) (fun h1 c g hM => m_same (cm_MO_whyFailN hM nd hG hv))
theorem an_ounces {E : En} {h : Hp} {A γ : Nat → Nat} {s : Sv} {i : Nat} {v : Int32} (hE : (eL E).stackTraces = false) (L : LI h A γ s i) (hi : i ≤ 512) : AnsW E m_LW_ounces m_MO_ounces fI [.int v] h A i := by
  obtain ⟨nw, sc, ni, U, b, sp, B, d, ⟨k_x, r_x_2, r_x_3⟩, ⟨hB, hN, hD⟩, vb, hw, w0, hG, hP, hU⟩ := L.now
  have n6 := hG.1.2.1
  have s8 := hG.1.2.2.2.1
  have nd := L.1.2.2.1.nd2
  have u9 : U ≤ 266240 := by omega
  rcases shop_dec sc s8 v with ⟨j, hj, rfl⟩ | hv
  · exact q_ok L d n6 s8 r_x_3 (fun hq hc => ws_ounces k_x hq hc (by decide) (by decide)) (c_same (by have k := cs_HS_ounces (E := E) k_x r_x_2 hB hG hj; rw [hw] at k; exact k)) (fun h1 c g hM g12 => m_same (cm_MO_ounces hM nd hG hj))
  · exact q_er (code := 1) L d n6 s8 (by decide) rfl (fun hc => we_ounces_1 k_x hc (by decide) (by decide)) (by have k := ce_HS_ouncesN (E := E) hE k_x r_x_2 hB hG hv; rw [hw] at k; exact k) (fun h1 c g hM => m_same (cm_MO_ouncesN hM nd hG hv))
theorem an_testWeight {E : En} {h : Hp} {A γ : Nat → Nat} {s : Sv} {i : Nat} {v : Int32} (hE : (eL E).stackTraces = false) (L : LI h A γ s i) (hi : i ≤ 512) : AnsW E m_LW_testWeight m_MO_testWeight fI [.int v] h A i := by
  obtain ⟨nw, sc, ni, U, b, sp, B, d, ⟨k_x, r_x_2, r_x_3⟩, ⟨hB, hN, hD⟩, vb, hw, w0, hG, hP, hU⟩ := L.now
  have n6 := hG.1.2.1
  have s8 := hG.1.2.2.2.1
  have nd := L.1.2.2.1.nd2
  have u9 : U ≤ 266240 := by omega
  rcases shop_dec nw (by omega) v with ⟨j, hj, rfl⟩ | hv
  · exact q_ok L d n6 s8 r_x_3 (fun hq hc => ws_testWeight k_x hq hc (by decide) (by decide)) (c_same (by have k := cs_HS_testWeight (E := E) k_x r_x_2 hB hG hj; rw [hw] at k; exact k)) (fun h1 c g hM g12 => m_same (cm_MO_testWeight hM nd hG hj))
  · exact q_er (code := 1) L d n6 s8 (by decide) rfl (fun hc => we_testWeight_1 k_x hc (by decide) (by decide)) (by have k := ce_HS_testWeightN (E := E) hE k_x r_x_2 hB hG hv; rw [hw] at k; exact k) (fun h1 c g hM => m_same (cm_MO_testWeightN hM nd hG w0 hv))
theorem an_bound {E : En} {h : Hp} {A γ : Nat → Nat} {s : Sv} {i : Nat} {y : Int32} (hE : (eL E).stackTraces = false) (L : LI h A γ s i) (hi : i ≤ 512) : AnsW E m_LW_bound m_MO_bound fI [.int y] h A i := by
  obtain ⟨nw, sc, ni, U, b, sp, B, d, ⟨k_x, r_x_2, r_x_3⟩, ⟨hB, hN, hD⟩, vb, hw, w0, hG, hP, hU⟩ := L.now
  have n6 := hG.1.2.1
  have s8 := hG.1.2.2.2.1
  have nd := L.1.2.2.1.nd2
  have u9 : U ≤ 266240 := by omega
  rcases num_dec 1 5000 y with ⟨hr1, hr2⟩ | hrn
  · exact q_ok L d n6 s8 r_x_3 (fun hq hc => ws_bound k_x hq hc (by decide) (by decide)) (c_same (by have k := cs_HS_bound (E := E) k_x r_x_2 hB hG hr1 hr2; rw [hw] at k; exact k)) (fun h1 c g hM g12 => m_same (cm_MO_bound hM nd hG hr1 hr2))
  · exact q_er (code := 1) L d n6 s8 (by decide) rfl (fun hc => we_bound_1 k_x hc (by decide) (by decide)) (by have k := ce_HS_boundR (E := E) hE k_x r_x_2 hB hG hrn; rw [hw] at k; exact k) (fun h1 c g hM => m_same (cm_MO_boundR hM nd hG hrn))
theorem an_expiringStamps {E : En} {h : Hp} {A γ : Nat → Nat} {s : Sv} {i : Nat} {y : Int32} (hE : (eL E).stackTraces = false) (L : LI h A γ s i) (hi : i ≤ 512) : AnsW E m_LW_expiringStamps m_MO_expiringStamps fI [.int y] h A i := by
  obtain ⟨nw, sc, ni, U, b, sp, B, d, ⟨k_x, r_x_2, r_x_3⟩, ⟨hB, hN, hD⟩, vb, hw, w0, hG, hP, hU⟩ := L.now
  have n6 := hG.1.2.1
  have s8 := hG.1.2.2.2.1
  have nd := L.1.2.2.1.nd2
  have u9 : U ≤ 266240 := by omega
  rcases num_dec 0 200 y with ⟨hr1, hr2⟩ | hrn
  · exact q_ok L d n6 s8 r_x_3 (fun hq hc => ws_expiringStamps k_x hq hc (by decide) (by decide)) (c_same (by have k := cs_HS_expiringStamps (E := E) k_x r_x_2 hB hG hr1 hr2; rw [hw] at k; exact k)) (fun h1 c g hM g12 => m_same (cm_MO_expiringStamps hM nd hG hr1 hr2))
  · exact q_er (code := 1) L d n6 s8 (by decide) rfl (fun hc => we_expiringStamps_1 k_x hc (by decide) (by decide)) (by have k := ce_HS_expiringStampsR (E := E) hE k_x r_x_2 hB hG hrn; rw [hw] at k; exact k) (fun h1 c g hM => m_same (cm_MO_expiringStampsR hM nd hG hrn))
theorem an_reading {E : En} {h : Hp} {A γ : Nat → Nat} {s : Sv} {i : Nat} {v y : Int32} (hE : (eL E).stackTraces = false) (L : LI h A γ s i) (hi : i ≤ 512) : AnsW E m_LW_reading m_MO_reading fI [.int v, .int y] h A i := by
  obtain ⟨nw, sc, ni, U, b, sp, B, d, ⟨k_x, r_x_2, r_x_3⟩, ⟨hB, hN, hD⟩, vb, hw, w0, hG, hP, hU⟩ := L.now
  have n6 := hG.1.2.1
  have s8 := hG.1.2.2.2.1
  have nd := L.1.2.2.1.nd2
  have u9 : U ≤ 266240 := by omega
  rcases shop_dec sc s8 v with ⟨j, hj, rfl⟩ | hv
  · rcases num_dec 1 5000 y with ⟨hr1, hr2⟩ | hrn
    · exact q_ok L d n6 s8 r_x_3 (fun hq hc => ws_reading k_x hq hc (by decide) (by decide)) (c_same (by have k := cs_HS_reading (E := E) k_x r_x_2 hB hG hj hr1 hr2; rw [hw] at k; exact k)) (fun h1 c g hM g12 => m_same (cm_MO_reading hM nd hG hj hr1 hr2))
    · exact q_er (code := 2) L d n6 s8 (by decide) rfl (fun hc => we_reading_2 k_x hc (by decide) (by decide)) (by have k := ce_HS_readingR (E := E) hE k_x r_x_2 hB hG hj hrn; rw [hw] at k; exact k) (fun h1 c g hM => m_same (cm_MO_readingR hM nd hG hj hrn))
  · exact q_er (code := 1) L d n6 s8 (by decide) rfl (fun hc => we_reading_1 k_x hc (by decide) (by decide)) (by have k := ce_HS_readingN (E := E) hE k_x r_x_2 hB hG hv (yv := y); rw [hw] at k; exact k) (fun h1 c g hM => m_same (cm_MO_readingN hM nd hG hv))
theorem an_excess {E : En} {h : Hp} {A γ : Nat → Nat} {s : Sv} {i : Nat} {v y : Int32} (hE : (eL E).stackTraces = false) (L : LI h A γ s i) (hi : i ≤ 512) : AnsW E m_LW_excess m_MO_excess fI [.int v, .int y] h A i := by
  obtain ⟨nw, sc, ni, U, b, sp, B, d, ⟨k_x, r_x_2, r_x_3⟩, ⟨hB, hN, hD⟩, vb, hw, w0, hG, hP, hU⟩ := L.now
  have n6 := hG.1.2.1
  have s8 := hG.1.2.2.2.1
  have nd := L.1.2.2.1.nd2
  have u9 : U ≤ 266240 := by omega
  rcases shop_dec sc s8 v with ⟨j, hj, rfl⟩ | hv
  · rcases num_dec 1 5000 y with ⟨hr1, hr2⟩ | hrn
    · exact q_ok L d n6 s8 r_x_3 (fun hq hc => ws_excess k_x hq hc (by decide) (by decide)) (c_same (by have k := cs_HS_excess (E := E) k_x r_x_2 hB hG hj hr1 hr2; rw [hw] at k; exact k)) (fun h1 c g hM g12 => m_same (cm_MO_excess hM nd hG hj hr1 hr2))
    · exact q_er (code := 2) L d n6 s8 (by decide) rfl (fun hc => we_excess_2 k_x hc (by decide) (by decide)) (by have k := ce_HS_excessR (E := E) hE k_x r_x_2 hB hG hj hrn; rw [hw] at k; exact k) (fun h1 c g hM => m_same (cm_MO_excessR hM nd hG hj hrn))
  · exact q_er (code := 1) L d n6 s8 (by decide) rfl (fun hc => we_excess_1 k_x hc (by decide) (by decide)) (by have k := ce_HS_excessN (E := E) hE k_x r_x_2 hB hG hv (yv := y); rw [hw] at k; exact k) (fun h1 c g hM => m_same (cm_MO_excessN hM nd hG hv))
theorem an_nextGain {E : En} {h : Hp} {A γ : Nat → Nat} {s : Sv} {i : Nat} {v : Int32} (hE : (eL E).stackTraces = false) (L : LI h A γ s i) (hi : i ≤ 512) : AnsW E m_LW_nextGain m_MO_nextGain fI [.int v] h A i := by
  obtain ⟨nw, sc, ni, U, b, sp, B, d, ⟨k_x, r_x_2, r_x_3⟩, ⟨hB, hN, hD⟩, vb, hw, w0, hG, hP, hU⟩ := L.now
  have n6 := hG.1.2.1
  have s8 := hG.1.2.2.2.1
  have nd := L.1.2.2.1.nd2
  have u9 : U ≤ 266240 := by omega
  rcases shop_dec sc s8 v with ⟨j, hj, rfl⟩ | hv
  · rcases hG.1.2.2.2.2.2.2.2.2 j hj with o0 | o1
    · exact q_ok L d n6 s8 r_x_3 (fun hq hc => ws_nextGain k_x hq hc (by decide) (by decide)) (c_spare (by have k := cs_HS_nextGainC (E := E) k_x r_x_2 r_x_3 hB hN hD (by rw [vb]; exact hG) rfl hj (by rw [vb, P_copy_s hj (by decide)]; exact o0); rw [vb] at k; exact k)) (fun h1 c g hM g12 => (by
      have k := cm_MO_nextGainC (E := E) (B := (P_copy nw sc (vB h sp) B)) (g := g) (c := c) hM nd (Gd_copy hG) hj (by rw [P_copy_s hj (by decide)]; exact o0)
      simp only [enc_copy] at k
      exact m_same k))
    · exact q_ok L d n6 s8 r_x_3 (fun hq hc => ws_nextGain k_x hq hc (by decide) (by decide)) (c_spare (by have k := cs_HS_nextGain (E := E) k_x r_x_2 r_x_3 hB hN hD (by rw [vb]; exact hG) rfl hj (by rw [vb, P_copy_s hj (by decide)]; exact o1); rw [vb] at k; exact k)) (fun h1 c g hM g12 => (by
      have k := cm_MO_nextGain (E := E) (B := (P_copy nw sc (vB h sp) B)) (g := g) (c := c) hM nd (Gd_copy hG) hj (by rw [P_copy_s hj (by decide)]; exact o1)
      simp only [enc_copy] at k
      exact m_12 n6 s8 k))
  · exact q_er (code := 1) L d n6 s8 (by decide) rfl (fun hc => we_nextGain_1 k_x hc (by decide) (by decide)) (by have k := ce_HS_nextGainN (E := E) hE k_x r_x_2 hB hG hv; rw [hw] at k; exact k) (fun h1 c g hM => m_same (cm_MO_nextGainN hM nd hG hv))
theorem an_daysUntilFalse {E : En} {h : Hp} {A γ : Nat → Nat} {s : Sv} {i : Nat} {v : Int32} (hE : (eL E).stackTraces = false) (L : LI h A γ s i) (hi : i ≤ 512) : AnsW E m_LW_daysUntilFalse m_MO_daysUntilFalse fI [.int v] h A i := by
  obtain ⟨nw, sc, ni, U, b, sp, B, d, ⟨k_x, r_x_2, r_x_3⟩, ⟨hB, hN, hD⟩, vb, hw, w0, hG, hP, hU⟩ := L.now
  have n6 := hG.1.2.1
  have s8 := hG.1.2.2.2.1
  have nd := L.1.2.2.1.nd2
  have u9 : U ≤ 266240 := by omega
  rcases shop_dec sc s8 v with ⟨j, hj, rfl⟩ | hv
  · exact q_ok L d n6 s8 r_x_3 (fun hq hc => ws_daysUntilFalse k_x hq hc (by decide) (by decide)) (c_sparE (by have k := cs_HS_daysUntilFalse (E := E) k_x r_x_2 r_x_3 hB hN hD (by rw [vb]; exact hG) rfl hj ; rw [vb] at k; exact k)) (fun h1 c g hM g12 => (by
      have k := cm_MO_daysUntilFalse (E := E) (B := (P_copy nw sc (vB h sp) B)) (g := g) (c := c) hM nd (Gd_copy hG) hj
      simp only [enc_copy] at k
      exact m_12 n6 s8 k))
  · exact q_er (code := 1) L d n6 s8 (by decide) rfl (fun hc => we_daysUntilFalse_1 k_x hc (by decide) (by decide)) (by have k := ce_HS_daysUntilFalseN (E := E) hE k_x r_x_2 hB hG hv; rw [hw] at k; exact k) (fun h1 c g hM => m_same (cm_MO_daysUntilFalseN hM nd hG hv))
theorem an_daysUntilClosed {E : En} {h : Hp} {A γ : Nat → Nat} {s : Sv} {i : Nat} {v : Int32} (hE : (eL E).stackTraces = false) (L : LI h A γ s i) (hi : i ≤ 512) : AnsW E m_LW_daysUntilClosed m_MO_daysUntilClosed fI [.int v] h A i := by
  obtain ⟨nw, sc, ni, U, b, sp, B, d, ⟨k_x, r_x_2, r_x_3⟩, ⟨hB, hN, hD⟩, vb, hw, w0, hG, hP, hU⟩ := L.now
  have n6 := hG.1.2.1
  have s8 := hG.1.2.2.2.1
  have nd := L.1.2.2.1.nd2
  have u9 : U ≤ 266240 := by omega
  rcases shop_dec sc s8 v with ⟨j, hj, rfl⟩ | hv
  · exact q_ok L d n6 s8 r_x_3 (fun hq hc => ws_daysUntilClosed k_x hq hc (by decide) (by decide)) (c_sparE (by have k := cs_HS_daysUntilClosed (E := E) k_x r_x_2 r_x_3 hB hN hD (by rw [vb]; exact hG) rfl hj (by omega); rw [vb] at k; exact k)) (fun h1 c g hM g12 => (by
      have k := cm_MO_daysUntilClosed (E := E) (B := (P_copy nw sc (vB h sp) B)) (g := g) (c := c) hM nd (Gd_copy hG) (by omega) hj
      simp only [enc_copy] at k
      exact m_12 n6 s8 k))
  · exact q_er (code := 1) L d n6 s8 (by decide) rfl (fun hc => we_daysUntilClosed_1 k_x hc (by decide) (by decide)) (by have k := ce_HS_daysUntilClosedN (E := E) hE k_x r_x_2 hB hG hv; rw [hw] at k; exact k) (fun h1 c g hM => m_same (cm_MO_daysUntilClosedN hM nd hG hv))
theorem an_purseAfter {E : En} {h : Hp} {A γ : Nat → Nat} {s : Sv} {i : Nat} {v y : Int32} (hE : (eL E).stackTraces = false) (L : LI h A γ s i) (hi : i ≤ 512) : AnsW E m_LW_purseAfter m_MO_purseAfter fI [.int v, .int y] h A i := by
  obtain ⟨nw, sc, ni, U, b, sp, B, d, ⟨k_x, r_x_2, r_x_3⟩, ⟨hB, hN, hD⟩, vb, hw, w0, hG, hP, hU⟩ := L.now
  have n6 := hG.1.2.1
  have s8 := hG.1.2.2.2.1
  have nd := L.1.2.2.1.nd2
  have u9 : U ≤ 266240 := by omega
  rcases shop_dec sc s8 v with ⟨j, hj, rfl⟩ | hv
  · rcases num_dec 0 200 y with ⟨hr1, hr2⟩ | hrn
    · have b1 : (0 : Int) ≤ y.toInt := (i_le _ _).mp hr1
      have b2 : y.toInt ≤ 200 := (i_le _ _).mp hr2
      have dl : y.toInt.toNat ≤ 200 := by omega
      have ey := nat_of (v := y) (by omega)
      generalize y.toInt.toNat = days at *
      subst ey
      exact q_ok L d n6 s8 r_x_3 (fun hq hc => ws_purseAfter k_x hq hc (by decide) (by decide)) (c_spare (by have k := cs_HS_purseAfter (E := E) k_x r_x_2 r_x_3 hB hN hD (by rw [vb]; exact hG) rfl hj (by omega) hr1 hr2; rw [vb] at k; exact k)) (fun h1 c g hM g12 => (by
      have k := cm_MO_purseAfter (E := E) (B := (P_copy nw sc (vB h sp) B)) (g := g) (c := c) hM nd (Gd_copy hG) hj (by omega) hr1 hr2
      simp only [enc_copy] at k
      exact m_12 n6 s8 k))
    · exact q_er (code := 2) L d n6 s8 (by decide) rfl (fun hc => we_purseAfter_2 k_x hc (by decide) (by decide)) (by have k := ce_HS_purseAfterR (E := E) hE k_x r_x_2 hB hG hj hrn; rw [hw] at k; exact k) (fun h1 c g hM => m_same (cm_MO_purseAfterR hM nd hG hj hrn))
  · exact q_er (code := 1) L d n6 s8 (by decide) rfl (fun hc => we_purseAfter_1 k_x hc (by decide) (by decide)) (by have k := ce_HS_purseAfterN (E := E) hE k_x r_x_2 hB hG hv (yv := y); rw [hw] at k; exact k) (fun h1 c g hM => m_same (cm_MO_purseAfterN hM nd hG hv))
theorem an_bestThumb {E : En} {h : Hp} {A γ : Nat → Nat} {s : Sv} {i : Nat} {v y : Int32} (hE : (eL E).stackTraces = false) (L : LI h A γ s i) (hi : i ≤ 512) : AnsW E m_LW_bestThumb m_MO_bestThumb fI [.int v, .int y] h A i := by
  obtain ⟨nw, sc, ni, U, b, sp, B, d, ⟨k_x, r_x_2, r_x_3⟩, ⟨hB, hN, hD⟩, vb, hw, w0, hG, hP, hU⟩ := L.now
  have n6 := hG.1.2.1
  have s8 := hG.1.2.2.2.1
  have nd := L.1.2.2.1.nd2
  have u9 : U ≤ 266240 := by omega
  rcases shop_dec sc s8 v with ⟨j, hj, rfl⟩ | hv
  · rcases num_dec 1 100 y with ⟨hr1, hr2⟩ | hrn
    · have b1 : (1 : Int) ≤ y.toInt := (i_le _ _).mp hr1
      have b2 : y.toInt ≤ 100 := (i_le _ _).mp hr2
      have dl : y.toInt.toNat ≤ 200 := by omega
      have ey := nat_of (v := y) (by omega)
      have hp9 : Pb U (Q_thumb (P_copy nw sc (vB h sp) B) j 0) sc := Pb_sS (Pb_copy hP) (Pz_thumb ((Pb_copy (B := vB h sp) (nw := nw) hP).2 j hj) (by decide) (by decide))
      have hg9 : Gd (Q_thumb (P_copy nw sc (vB h sp) B) j 0) nw sc ni U := Gd_sS (Gd_copy hG) (Sg_u ((Gd_copy (B := vB h sp) hG).2.2 j hj) (by decide))
      have hq0 := Q_purse_b (days := y.toInt.toNat) (i := j) hg9 hp9 (by omega) (by omega) hj
      generalize y.toInt.toNat = days at *
      subst ey
      exact q_ok L d n6 s8 r_x_3 (fun hq hc => ws_bestThumb k_x hq hc (by decide) (by decide)) (c_sparE (by have k := cs_HS_bestThumb (E := E) k_x r_x_2 r_x_3 hB hN hD (by rw [vb]; exact hG) rfl hj (by omega) (by rw [vb]; exact hq0) hr1 hr2; rw [vb] at k; exact k)) (fun h1 c g hM g12 => (by
      have k := cm_MO_bestThumb (E := E) (B := (P_copy nw sc (vB h sp) B)) (g := g) (c := c) hM nd (Gd_copy hG) hj (by omega) hr1 hr2
      simp only [enc_copy] at k
      exact m_12 n6 s8 k))
    · exact q_er (code := 2) L d n6 s8 (by decide) rfl (fun hc => we_bestThumb_2 k_x hc (by decide) (by decide)) (by have k := ce_HS_bestThumbR (E := E) hE k_x r_x_2 hB hG hj hrn; rw [hw] at k; exact k) (fun h1 c g hM => m_same (cm_MO_bestThumbR hM nd hG hj hrn))
  · exact q_er (code := 1) L d n6 s8 (by decide) rfl (fun hc => we_bestThumb_1 k_x hc (by decide) (by decide)) (by have k := ce_HS_bestThumbN (E := E) hE k_x r_x_2 hB hG hv (yv := y); rw [hw] at k; exact k) (fun h1 c g hM => m_same (cm_MO_bestThumbN hM nd hG hv))
