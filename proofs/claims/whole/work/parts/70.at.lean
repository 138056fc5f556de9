/-! ANSWERS: the eight changes -/
theorem Gd_ni {B : Bu} {nw sc ni U n : Nat} (h : Gd B nw sc ni U) (h3 : n ≤ 3) : Gd (sC B (u1 B.1 5 (nI n))) nw sc n U := by
  obtain ⟨⟨a1, a2, a3, a4, a5, a6, a7, a8, a9⟩, b, c⟩ := h
  exact ⟨⟨a1, a2, a3, a4, a5, rfl, h3, a8, a9⟩, b, c⟩
theorem an_passDays {E : En} {h : Hp} {A γ : Nat → Nat} {s : Sv} {i : Nat} {y : Int32} (hE : (eL E).stackTraces = false) (L : LI h A γ s i) (hi : i ≤ 512) : AnsW E m_LW_passDays m_MO_passDays fI [.int y] h A i := by
  obtain ⟨nw, sc, ni, U, b, sp, B, d, ⟨k_x, r_x_2, r_x_3⟩, ⟨hB, hN, hD⟩, vb, hw, w0, hG, hP, hU⟩ := L.now
  have n6 := hG.1.2.1
  have s8 := hG.1.2.2.2.1
  have nd := L.1.2.2.1.nd2
  have u9 : U ≤ 266240 := by omega
  obtain ⟨o8, k8, n5⟩ := L.2.2.2.2.1
  have r_x_4 := L.1.1.1.2.2.2.1
  have k_hy := L.1.1.2.2.2.2.1.1
  rcases num_dec 1 100 y with ⟨hr1, hr2⟩ | hrn
  · have b1 : (1 : Int) ≤ y.toInt := (i_le _ _).mp hr1
    have b2 : y.toInt ≤ 100 := (i_le _ _).mp hr2
    have ey := nat_of (v := y) (by omega)
    have dl : y.toInt.toNat ≤ 100 := by omega
    generalize y.toInt.toNat = days at *
    subst ey
    exact ch_ok L d r_x_2 vb hG (fun hq hc => ws_passDays k_x hq hc (by decide) (by decide)) (fun hRm hQ => cs_HS_passDays k_x r_x_2 r_x_4 k_hy hB vb hG hRm hQ (by omega) hr1 hr2) (fun h1 c g hM c1 c2 => cm_MO_passDays hM nd hG c1 c2 o8 k8 (by omega) hr1 hr2) (money_JE (JE_pass hG.1.2.2.2.2.1 days (0, B))) (fun U1 h1 hG1 hP1 => ⟨U1 + days, by omega, by omega, Gd_pass days U1 (0, B) hG1 (by omega), Pb_pass days U1 U1 (0, B) hG1 hP1 (by omega) (by omega)⟩)
  · exact q_er (code := 1) L d n6 s8 (by decide) rfl (fun hc => we_passDays_1 k_x hc (by decide) (by decide)) (by have k := ce_HS_passDaysR (E := E) hE k_x r_x_2 hB hG hrn; rw [hw] at k; exact k) (fun h1 c g hM => m_same (cm_MO_passDaysR hM nd hG hrn))
theorem an_visit {E : En} {h : Hp} {A γ : Nat → Nat} {s : Sv} {i : Nat} {v : Int32} (hE : (eL E).stackTraces = false) (L : LI h A γ s i) (hi : i ≤ 512) : AnsW E m_LW_visit m_MO_visit fI [.int v] h A i := by
  obtain ⟨nw, sc, ni, U, b, sp, B, d, ⟨k_x, r_x_2, r_x_3⟩, ⟨hB, hN, hD⟩, vb, hw, w0, hG, hP, hU⟩ := L.now
  have n6 := hG.1.2.1
  have s8 := hG.1.2.2.2.1
  have nd := L.1.2.2.1.nd2
  have u9 : U ≤ 266240 := by omega
  obtain ⟨o8, k8, n5⟩ := L.2.2.2.2.1
  have r_x_4 := L.1.1.1.2.2.2.1
  have k_hy := L.1.1.2.2.2.2.1.1
  rcases shop_dec sc s8 v with ⟨j, hj, rfl⟩ | hv
  · rcases hG.1.2.2.2.2.2.2.2.2 j hj with o0 | o1
    · exact q_er (code := 2) L d n6 s8 (by decide) rfl (fun hc => we_visit_2 k_x hc (by decide) (by decide)) (by have k := ce_HS_visitS (E := E) hE k_x r_x_2 hB hG hj o0; rw [hw] at k; exact k) (fun h1 c g hM => m_same (cm_MO_visitS hM nd hG hj o0))
    · exact ch_ok L d r_x_2 vb hG (fun hq hc => ws_visit k_x hq hc (by decide) (by decide)) (fun hRm hQ => cs_HS_visit k_x r_x_2 r_x_4 k_hy hB vb hG hRm hQ hj o1) (fun h1 c g hM c1 c2 => cm_MO_visit hM nd hG c1 c2 o8 k8 hj o1) (money_JE (JE_ins hj)) (fun U1 h1 hG1 hP1 => ⟨U1, by omega, by omega, Gd_ins hG1 hj, Pb_ins hG1 hP1 hj (by rw [o1]; decide) (by omega)⟩)
  · exact q_er (code := 1) L d n6 s8 (by decide) rfl (fun hc => we_visit_1 k_x hc (by decide) (by decide)) (by have k := ce_HS_visitN (E := E) hE k_x r_x_2 hB hG hv; rw [hw] at k; exact k) (fun h1 c g hM => m_same (cm_MO_visitN hM nd hG hv))
theorem an_repair {E : En} {h : Hp} {A γ : Nat → Nat} {s : Sv} {i : Nat} {v : Int32} (hE : (eL E).stackTraces = false) (L : LI h A γ s i) (hi : i ≤ 512) : AnsW E m_LW_repair m_MO_repair fI [.int v] h A i := by
  obtain ⟨nw, sc, ni, U, b, sp, B, d, ⟨k_x, r_x_2, r_x_3⟩, ⟨hB, hN, hD⟩, vb, hw, w0, hG, hP, hU⟩ := L.now
  have n6 := hG.1.2.1
  have s8 := hG.1.2.2.2.1
  have nd := L.1.2.2.1.nd2
  have u9 : U ≤ 266240 := by omega
  obtain ⟨o8, k8, n5⟩ := L.2.2.2.2.1
  have r_x_4 := L.1.1.1.2.2.2.1
  have k_hy := L.1.1.2.2.2.2.1.1
  rcases shop_dec sc s8 v with ⟨j, hj, rfl⟩ | hv
  · cases hpay : M_canPay (B.2.2 j)
    · exact q_er (code := 2) L d n6 s8 (by decide) rfl (fun hc => we_repair_2 k_x hc (by decide) (by decide)) (by have k := ce_HS_repairS (E := E) hE k_x r_x_2 hB hG hj hpay; rw [hw] at k; exact k) (fun h1 c g hM => m_same (cm_MO_repairS hM nd hG hj hpay))
    · exact ch_ok L d r_x_2 vb hG (fun hq hc => ws_repair k_x hq hc (by decide) (by decide)) (fun hRm hQ => cs_HS_repair k_x r_x_2 r_x_4 k_hy hB vb hG hRm hQ hj hpay) (fun h1 c g hM c1 c2 => cm_MO_repair hM nd hG c1 c2 o8 k8 hj hpay) (money_JE (JE_repair hj)) (fun U1 h1 hG1 hP1 => ⟨U1, by omega, by omega, Gd_repair hG1 hj, Pb_repair hP1 hj hpay (by omega)⟩)
  · exact q_er (code := 1) L d n6 s8 (by decide) rfl (fun hc => we_repair_1 k_x hc (by decide) (by decide)) (by have k := ce_HS_repairN (E := E) hE k_x r_x_2 hB hG hv; rw [hw] at k; exact k) (fun h1 c g hM => m_same (cm_MO_repairN hM nd hG hv))
theorem an_setThumb {E : En} {h : Hp} {A γ : Nat → Nat} {s : Sv} {i : Nat} {v y : Int32} (hE : (eL E).stackTraces = false) (L : LI h A γ s i) (hi : i ≤ 512) : AnsW E m_LW_setThumb m_MO_setThumb fI [.int v, .int y] h A i := by
  obtain ⟨nw, sc, ni, U, b, sp, B, d, ⟨k_x, r_x_2, r_x_3⟩, ⟨hB, hN, hD⟩, vb, hw, w0, hG, hP, hU⟩ := L.now
  have n6 := hG.1.2.1
  have s8 := hG.1.2.2.2.1
  have nd := L.1.2.2.1.nd2
  have u9 : U ≤ 266240 := by omega
  obtain ⟨o8, k8, n5⟩ := L.2.2.2.2.1
  have r_x_4 := L.1.1.1.2.2.2.1
  have k_hy := L.1.1.2.2.2.2.1.1
  rcases shop_dec sc s8 v with ⟨j, hj, rfl⟩ | hv
  · rcases num_dec 0 100 y with ⟨hr1, hr2⟩ | hrn
    · exact ch_ok L d r_x_2 vb hG (fun hq hc => ws_setThumb k_x hq hc (by decide) (by decide)) (fun hRm hQ => cs_HS_setThumb k_x r_x_2 r_x_4 k_hy hB vb hG hRm hQ hj hr1 hr2) (fun h1 c g hM c1 c2 => cm_MO_setThumb hM nd hG c1 c2 o8 k8 hj hr1 hr2) (money_JE (JE_sS hj (KS_u KS_r (by decide)))) (fun U1 h1 hG1 hP1 => ⟨U1, by omega, by omega, Gd_sS hG1 (Sg_u (hG1.2.2 j hj) (by decide)), Pb_sS hP1 (Pz_thumb (hP1.2 j hj) hr1 hr2)⟩)
    · exact q_er (code := 2) L d n6 s8 (by decide) rfl (fun hc => we_setThumb_2 k_x hc (by decide) (by decide)) (by have k := ce_HS_setThumbR (E := E) hE k_x r_x_2 hB hG hj hrn; rw [hw] at k; exact k) (fun h1 c g hM => m_same (cm_MO_setThumbR hM nd hG hj hrn))
  · exact q_er (code := 1) L d n6 s8 (by decide) rfl (fun hc => we_setThumb_1 k_x hc (by decide) (by decide)) (by have k := ce_HS_setThumbN (E := E) hE k_x r_x_2 hB hG hv (yv := y); rw [hw] at k; exact k) (fun h1 c g hM => m_same (cm_MO_setThumbN hM nd hG hv))
theorem an_complain {E : En} {h : Hp} {A γ : Nat → Nat} {s : Sv} {i : Nat} {v : Int32} (hE : (eL E).stackTraces = false) (L : LI h A γ s i) (hi : i ≤ 512) : AnsW E m_LW_complain m_MO_complain fI [.int v] h A i := by
  obtain ⟨nw, sc, ni, U, b, sp, B, d, ⟨k_x, r_x_2, r_x_3⟩, ⟨hB, hN, hD⟩, vb, hw, w0, hG, hP, hU⟩ := L.now
  have n6 := hG.1.2.1
  have s8 := hG.1.2.2.2.1
  have nd := L.1.2.2.1.nd2
  have u9 : U ≤ 266240 := by omega
  obtain ⟨o8, k8, n5⟩ := L.2.2.2.2.1
  have r_x_4 := L.1.1.1.2.2.2.1
  have k_hy := L.1.1.2.2.2.2.1.1
  rcases shop_dec sc s8 v with ⟨j, hj, rfl⟩ | hv
  · rcases hG.1.2.2.2.2.2.2.2.2 j hj with o0 | o1
    · exact q_er (code := 2) L d n6 s8 (by decide) rfl (fun hc => we_complain_2 k_x hc (by decide) (by decide)) (by have k := ce_HS_complainS (E := E) hE k_x r_x_2 hB hG hj o0; rw [hw] at k; exact k) (fun h1 c g hM => m_same (cm_MO_complainS hM nd hG hj o0))
    · exact ch_ok L d r_x_2 vb hG (fun hq hc => ws_complain k_x hq hc (by decide) (by decide)) (fun hRm hQ => cs_HS_complain k_x r_x_2 r_x_4 k_hy hB vb hG hRm hQ hj o1) (fun h1 c g hM c1 c2 => cm_MO_complain hM nd hG c1 c2 o8 k8 hj o1) (money_JE (JE_sS hj (KS_u KS_r (by decide)))) (fun U1 h1 hG1 hP1 => ⟨U1 + 1, by omega, by omega, Gd_sS (hG1.mono (Nat.le_succ U1)) (Sg_8 (hG1.2.2 j hj) (by omega)), Pb_sS (hP1.mono (Nat.le_succ U1)) (((hP1.2 j hj).mono (Nat.le_succ U1)).eq rfl rfl rfl rfl rfl rfl)⟩)
  · exact q_er (code := 1) L d n6 s8 (by decide) rfl (fun hc => we_complain_1 k_x hc (by decide) (by decide)) (by have k := ce_HS_complainN (E := E) hE k_x r_x_2 hB hG hv; rw [hw] at k; exact k) (fun h1 c g hM => m_same (cm_MO_complainN hM nd hG hv))
theorem an_reopen {E : En} {h : Hp} {A γ : Nat → Nat} {s : Sv} {i : Nat} {v : Int32} (hE : (eL E).stackTraces = false) (L : LI h A γ s i) (hi : i ≤ 512) : AnsW E m_LW_reopen m_MO_reopen fI [.int v] h A i := by
  obtain ⟨nw, sc, ni, U, b, sp, B, d, ⟨k_x, r_x_2, r_x_3⟩, ⟨hB, hN, hD⟩, vb, hw, w0, hG, hP, hU⟩ := L.now
  have n6 := hG.1.2.1
  have s8 := hG.1.2.2.2.1
  have nd := L.1.2.2.1.nd2
  have u9 : U ≤ 266240 := by omega
  obtain ⟨o8, k8, n5⟩ := L.2.2.2.2.1
  have r_x_4 := L.1.1.1.2.2.2.1
  have k_hy := L.1.1.2.2.2.2.1.1
  rcases shop_dec sc s8 v with ⟨j, hj, rfl⟩ | hv
  · rcases hG.1.2.2.2.2.2.2.2.2 j hj with o0 | o1
    · exact ch_ok L d r_x_2 vb hG (fun hq hc => ws_reopen k_x hq hc (by decide) (by decide)) (fun hRm hQ => cs_HS_reopen k_x r_x_2 r_x_4 k_hy hB vb hG hRm hQ hj o0) (fun h1 c g hM c1 c2 => cm_MO_reopen hM nd hG c1 c2 o8 k8 hj o0) (money_JE (JE_sS hj (KS_u (KS_u KS_r (by decide)) (by decide)))) (fun U1 h1 hG1 hP1 => ⟨U1 + 24, by omega, by omega, (Gd_sS hG1 (Sg_open (hG1.2.2 j hj))).mono (by omega), Pb_sS (hP1.mono (by omega)) (Pz_open (hP1.2 j hj))⟩)
    · exact q_er (code := 2) L d n6 s8 (by decide) rfl (fun hc => we_reopen_2 k_x hc (by decide) (by decide)) (by have k := ce_HS_reopenS (E := E) hE k_x r_x_2 hB hG hj o1; rw [hw] at k; exact k) (fun h1 c g hM => m_same (cm_MO_reopenS hM nd hG hj o1))
  · exact q_er (code := 1) L d n6 s8 (by decide) rfl (fun hc => we_reopen_1 k_x hc (by decide) (by decide)) (by have k := ce_HS_reopenN (E := E) hE k_x r_x_2 hB hG hv; rw [hw] at k; exact k) (fun h1 c g hM => m_same (cm_MO_reopenN hM nd hG hv))
theorem an_setInspectors {E : En} {h : Hp} {A γ : Nat → Nat} {s : Sv} {i : Nat} {y : Int32} (hE : (eL E).stackTraces = false) (L : LI h A γ s i) (hi : i ≤ 512) : AnsW E m_LW_setInspectors m_MO_setInspectors fI [.int y] h A i := by
  obtain ⟨nw, sc, ni, U, b, sp, B, d, ⟨k_x, r_x_2, r_x_3⟩, ⟨hB, hN, hD⟩, vb, hw, w0, hG, hP, hU⟩ := L.now
  have n6 := hG.1.2.1
  have s8 := hG.1.2.2.2.1
  have nd := L.1.2.2.1.nd2
  have u9 : U ≤ 266240 := by omega
  obtain ⟨o8, k8, n5⟩ := L.2.2.2.2.1
  have r_x_4 := L.1.1.1.2.2.2.1
  have k_hy := L.1.1.2.2.2.2.1.1
  rcases num_dec 0 3 y with ⟨hr1, hr2⟩ | hrn
  · have b1 : (0 : Int) ≤ y.toInt := (i_le _ _).mp hr1
    have b2 : y.toInt ≤ 3 := (i_le _ _).mp hr2
    have ey := nat_of (v := y) (by omega)
    have dl : y.toInt.toNat ≤ 3 := by omega
    generalize y.toInt.toNat = k at *
    subst ey
    exact ch_ok L d r_x_2 vb hG (fun hq hc => ws_setInspectors k_x hq hc (by decide) (by decide)) (fun hRm hQ => cs_HS_setInspectors k_x r_x_2 r_x_4 k_hy hB vb hG hRm hQ hr1 hr2) (fun h1 c g hM c1 c2 => cm_MO_setInspectors hM nd hG c1 c2 o8 k8 hr1 hr2) rfl (fun U1 h1 hG1 hP1 => ⟨U1, by omega, by omega, Gd_ni hG1 (by omega), ⟨hP1.1, hP1.2⟩⟩)
  · exact q_er (code := 1) L d n6 s8 (by decide) rfl (fun hc => we_setInspectors_1 k_x hc (by decide) (by decide)) (by have k := ce_HS_setInspectorsR (E := E) hE k_x r_x_2 hB hG hrn; rw [hw] at k; exact k) (fun h1 c g hM => m_same (cm_MO_setInspectorsR hM nd hG hrn))
theorem an_setFee {E : En} {h : Hp} {A γ : Nat → Nat} {s : Sv} {i : Nat} {y : Int32} (hE : (eL E).stackTraces = false) (L : LI h A γ s i) (hi : i ≤ 512) : AnsW E m_LW_setFee m_MO_setFee fI [.int y] h A i := by
  obtain ⟨nw, sc, ni, U, b, sp, B, d, ⟨k_x, r_x_2, r_x_3⟩, ⟨hB, hN, hD⟩, vb, hw, w0, hG, hP, hU⟩ := L.now
  have n6 := hG.1.2.1
  have s8 := hG.1.2.2.2.1
  have nd := L.1.2.2.1.nd2
  have u9 : U ≤ 266240 := by omega
  obtain ⟨o8, k8, n5⟩ := L.2.2.2.2.1
  have r_x_4 := L.1.1.1.2.2.2.1
  have k_hy := L.1.1.2.2.2.2.1.1
  rcases num_dec 0 99 y with ⟨hr1, hr2⟩ | hrn
  · have b1 : (0 : Int) ≤ y.toInt := (i_le _ _).mp hr1
    have b2 : y.toInt ≤ 99 := (i_le _ _).mp hr2
    have ey := nat_of (v := y) (by omega)
    have dl : y.toInt.toNat ≤ 99 := by omega
    generalize y.toInt.toNat = k at *
    subst ey
    exact ch_ok L d r_x_2 vb hG (fun hq hc => ws_setFee k_x hq hc (by decide) (by decide)) (fun hRm hQ => cs_HS_setFee k_x r_x_2 r_x_4 k_hy hB vb hG hRm hQ hr1 hr2) (fun h1 c g hM c1 c2 => cm_MO_setFee hM nd hG c1 c2 o8 k8 hr1 hr2) rfl (fun U1 h1 hG1 hP1 => ⟨U1, by omega, by omega, Gd_sC hG1 (by decide), ⟨⟨⟨by show (0 : Int) ≤ (nI k).toInt; omega, by show (nI k).toInt ≤ 99; omega⟩, hP1.1.2⟩, hP1.2⟩⟩)
  · exact q_er (code := 1) L d n6 s8 (by decide) rfl (fun hc => we_setFee_1 k_x hc (by decide) (by decide)) (by have k := ce_HS_setFeeR (E := E) hE k_x r_x_2 hB hG hrn; rw [hw] at k; exact k) (fun h1 c g hM => m_same (cm_MO_setFeeR hM nd hG hrn))
