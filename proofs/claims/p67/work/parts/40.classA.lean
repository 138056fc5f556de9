/-! THE CLASS'S OWN METHODS: what only reads -/
theorem op_bI {x : Int32} (h : x = 0 ∨ x = 1) : x = bI (decide (x ≠ 0)) := by rcases h with rfl | rfl <;> rfl
theorem lt0 {i : Nat} (h : i < 2 ^ 31) : ¬ nI i < 0 := fun c => by
  have := (nI_ltI (a := i) (b := 0) h (by omega)).mp c
  omega
theorem d_HS_requireShop_0 : decode (mC m_HS_requireShop) 0 = .ok (.iload_n 1, 1) := by decide +kernel
theorem d_HS_requireShop_1 : decode (mC m_HS_requireShop) 1 = .ok (.ifCond .lt 14, 3) := by decide +kernel
theorem d_HS_requireShop_4 : decode (mC m_HS_requireShop) 4 = .ok (.iload_n 1, 1) := by decide +kernel
theorem d_HS_requireShop_5 : decode (mC m_HS_requireShop) 5 = .ok (.aload_n 0, 1) := by decide +kernel
theorem d_HS_requireShop_6 : decode (mC m_HS_requireShop) 6 = .ok (.getfield 50, 3) := by decide +kernel
theorem d_HS_requireShop_9 : decode (mC m_HS_requireShop) 9 = .ok (.getfield 95, 3) := by decide +kernel
theorem d_HS_requireShop_12 : decode (mC m_HS_requireShop) 12 = .ok (.if_icmp .lt 14, 3) := by decide +kernel
theorem d_HS_requireShop_26 : decode (mC m_HS_requireShop) 26 = .ok (.return_, 1) := by decide +kernel
set_option maxRecDepth 20000 in
theorem cs_HS_requireShop {E : En} {h : Hp} {x b nw sc ni U : Nat} {B : Bu} {i : Nat} (k_x : hK h x = 1) (r_x_2 : hR h x 2 = some b) (hB : BuOk h b) (hG : Gd B nw sc ni U) (hi : i < sc) : CR E m_HS_requireShop [.ref x, .int (nI i)] (wB h b B) (none) (wB h b B) := by
  refine ct_of rfl (by decide +kernel) (Nat.le_of_ble_eq_true rfl) ?_
  show G E m_HS_requireShop 0 [(0, .ref x), (1, .int (nI i))] [] (wB h b B) 0 0 _ noX
  obtain ⟨hw, hn, hs, hm, h0, hni, n3, ⟨sd, hsd, hsx⟩, hop⟩ := id hG.1
  refine g_iload_n (pc := 0) d_HS_requireShop_0 rfl 1 rfl ?_
  refine g_if_lt (pc := 1) (tgt := 15) d_HS_requireShop_1 (by decide) (fun c_1 => ?_) (fun c_1 => ?_)
  · exact absurd c_1 (lt0 (by omega))
  · skip
    refine g_iload_n (pc := 4) d_HS_requireShop_4 rfl 1 rfl ?_
    refine g_aload_n (pc := 5) d_HS_requireShop_5 rfl 0 rfl ?_
    refine g_getR (pc := 6) (ci := 0) (f := 2) (b := b) rfl r_x_2 d_HS_requireShop_6 fl_HS_50 (by decide) k_x ?_
    refine g_bgI (pc := 9) (f := 8) rfl d_HS_requireShop_9 fl_HS_95 hB ?_
    refine g_icmp_lt (pc := 12) (tgt := 26) d_HS_requireShop_12 (by decide) (fun c_12 => ?_) (fun c_12 => ?_)
    · skip
      refine g_vret (pc := 26) d_HS_requireShop_26 rfl ?_
      exact ⟨rfl, rfl⟩
    · exact absurd ((nI_ltI (by omega) (by omega)).mpr hi) (by rw [hs] at c_12; exact c_12)
theorem d_HS_existingShop_0 : decode (mC m_HS_existingShop) 0 = .ok (.aload_n 0, 1) := by decide +kernel
theorem d_HS_existingShop_1 : decode (mC m_HS_existingShop) 1 = .ok (.iload_n 1, 1) := by decide +kernel
theorem d_HS_existingShop_2 : decode (mC m_HS_existingShop) 2 = .ok (.invokevirtual 258, 3) := by decide +kernel
theorem d_HS_existingShop_5 : decode (mC m_HS_existingShop) 5 = .ok (.aload_n 0, 1) := by decide +kernel
theorem d_HS_existingShop_6 : decode (mC m_HS_existingShop) 6 = .ok (.getfield 50, 3) := by decide +kernel
theorem d_HS_existingShop_9 : decode (mC m_HS_existingShop) 9 = .ok (.getfield 264, 3) := by decide +kernel
theorem d_HS_existingShop_12 : decode (mC m_HS_existingShop) 12 = .ok (.iload_n 1, 1) := by decide +kernel
theorem d_HS_existingShop_13 : decode (mC m_HS_existingShop) 13 = .ok (.aaload, 1) := by decide +kernel
theorem d_HS_existingShop_14 : decode (mC m_HS_existingShop) 14 = .ok (.areturn, 1) := by decide +kernel
set_option maxRecDepth 20000 in
theorem cs_HS_existingShop {E : En} {h : Hp} {x b nw sc ni U : Nat} {B : Bu} {i : Nat} (k_x : hK h x = 1) (r_x_2 : hR h x 2 = some b) (hB : BuOk h b) (hG : Gd B nw sc ni U) (hi : i < sc) : CR E m_HS_existingShop [.ref x, .int (nI i)] (wB h b B) (some (.ref (sh h b i))) (wB h b B) := by
  refine ct_of rfl (by decide +kernel) (Nat.le_of_ble_eq_true rfl) ?_
  show G E m_HS_existingShop 0 [(0, .ref x), (1, .int (nI i))] [] (wB h b B) 0 0 _ noX
  obtain ⟨hw, hn, hs, hm, h0, hni, n3, ⟨sd, hsd, hsx⟩, hop⟩ := id hG.1
  refine g_aload_n (pc := 0) d_HS_existingShop_0 rfl 0 rfl ?_
  refine g_iload_n (pc := 1) d_HS_existingShop_1 rfl 1 rfl ?_
  refine g_cV0 (pc := 2) (ci := 0) (As := [.int _]) d_HS_existingShop_2 rfl mv_HS_requireShop st_HS_existingShop_258 rfl rfl (by decide) rfl rfl (Nat.le_of_ble_eq_true rfl) k_x (cs_HS_requireShop k_x r_x_2 hB hG hi) ?_
  refine g_aload_n (pc := 5) d_HS_existingShop_5 rfl 0 rfl ?_
  refine g_getR (pc := 6) (ci := 0) (f := 2) (b := b) rfl r_x_2 d_HS_existingShop_6 fl_HS_50 (by decide) k_x ?_
  refine g_bgS (pc := 9) d_HS_existingShop_9 fl_HS_264 hB ?_
  refine g_iload_n (pc := 12) d_HS_existingShop_12 rfl 1 rfl ?_
  refine g_bsl (pc := 13) d_HS_existingShop_13 hB (by first | assumption | omega | decide) ?_
  refine g_aret (pc := 14) d_HS_existingShop_14 rfl (by first | exact Or.inl ⟨_, rfl⟩ | exact Or.inr ⟨_, rfl⟩) ?_
  exact ⟨rfl, rfl⟩
theorem d_HS_requireRange_0 : decode (mC m_HS_requireRange) 0 = .ok (.iload_n 0, 1) := by decide +kernel
theorem d_HS_requireRange_1 : decode (mC m_HS_requireRange) 1 = .ok (.iload_n 1, 1) := by decide +kernel
theorem d_HS_requireRange_2 : decode (mC m_HS_requireRange) 2 = .ok (.if_icmp .lt 8, 3) := by decide +kernel
theorem d_HS_requireRange_5 : decode (mC m_HS_requireRange) 5 = .ok (.iload_n 0, 1) := by decide +kernel
theorem d_HS_requireRange_6 : decode (mC m_HS_requireRange) 6 = .ok (.iload_n 2, 1) := by decide +kernel
theorem d_HS_requireRange_7 : decode (mC m_HS_requireRange) 7 = .ok (.if_icmp .le 14, 3) := by decide +kernel
theorem d_HS_requireRange_21 : decode (mC m_HS_requireRange) 21 = .ok (.return_, 1) := by decide +kernel
theorem d_HS_requireState_0 : decode (mC m_HS_requireState) 0 = .ok (.iload_n 0, 1) := by decide +kernel
theorem d_HS_requireState_1 : decode (mC m_HS_requireState) 1 = .ok (.ifCond .ne 14, 3) := by decide +kernel
theorem d_HS_requireState_4 : decode (mC m_HS_requireState) 4 = .ok (.new 59, 3) := by decide +kernel
theorem d_HS_requireState_7 : decode (mC m_HS_requireState) 7 = .ok (.dup, 1) := by decide +kernel
theorem d_HS_requireState_8 : decode (mC m_HS_requireState) 8 = .ok (.ldc_w 312, 3) := by decide +kernel
theorem d_HS_requireState_11 : decode (mC m_HS_requireState) 11 = .ok (.invokespecial 63, 3) := by decide +kernel
theorem d_HS_requireState_14 : decode (mC m_HS_requireState) 14 = .ok (.athrow, 1) := by decide +kernel
theorem d_HS_requireState_15 : decode (mC m_HS_requireState) 15 = .ok (.return_, 1) := by decide +kernel
theorem d_HS_requireGoodText_0 : decode (mC m_HS_requireGoodText) 0 = .ok (.iload_n 0, 1) := by decide +kernel
theorem d_HS_requireGoodText_1 : decode (mC m_HS_requireGoodText) 1 = .ok (.ifCond .ne 14, 3) := by decide +kernel
theorem d_HS_requireGoodText_15 : decode (mC m_HS_requireGoodText) 15 = .ok (.return_, 1) := by decide +kernel
set_option maxRecDepth 20000 in
theorem cs_HS_requireRange {E : En} {h : Hp} {v lo hi : Int32} (hr1 : lo ≤ v) (hr2 : v ≤ hi) : CR E m_HS_requireRange [.int v, .int lo, .int hi] h (none) (h) := by
  refine ct_of rfl (by decide +kernel) (Nat.le_of_ble_eq_true rfl) ?_
  show G E m_HS_requireRange 0 [(0, .int v), (1, .int lo), (2, .int hi)] [] h 0 0 _ noX
  refine g_iload_n (pc := 0) d_HS_requireRange_0 rfl 0 rfl ?_
  refine g_iload_n (pc := 1) d_HS_requireRange_1 rfl 1 rfl ?_
  refine g_icmp_lt (pc := 2) (tgt := 10) d_HS_requireRange_2 (by decide) (fun c_2 => ?_) (fun c_2 => ?_)
  · exact absurd hr1 (Int32.not_le.mpr c_2)
  · skip
    refine g_iload_n (pc := 5) d_HS_requireRange_5 rfl 0 rfl ?_
    refine g_iload_n (pc := 6) d_HS_requireRange_6 rfl 2 rfl ?_
    refine g_icmp_le (pc := 7) (tgt := 21) d_HS_requireRange_7 (by decide) (fun c_7 => ?_) (fun c_7 => ?_)
    · skip
      refine g_vret (pc := 21) d_HS_requireRange_21 rfl ?_
      exact ⟨rfl, rfl⟩
    · exact absurd hr2 c_7
set_option maxRecDepth 20000 in
theorem cs_HS_requireState {E : En} {h : Hp}  : CR E m_HS_requireState [.int 1] h (none) (h) := by
  refine ct_of rfl (by decide +kernel) (Nat.le_of_ble_eq_true rfl) ?_
  show G E m_HS_requireState 0 [(0, .int 1)] [] h 0 0 _ noX
  refine g_iload_n (pc := 0) d_HS_requireState_0 rfl 0 rfl ?_
  refine g_if_ne (pc := 1) (tgt := 15) d_HS_requireState_1 (by decide) (fun c_1 => ?_) (fun c_1 => ?_)
  · skip
    refine g_vret (pc := 15) d_HS_requireState_15 rfl ?_
    exact ⟨rfl, rfl⟩
  · exact absurd c_1 (by decide)
set_option maxRecDepth 20000 in
theorem ce_HS_requireState {E : En} {h : Hp} (hE : (eL E).stackTraces = false)  : CE E m_HS_requireState [.int 0] h "java/lang/IllegalStateException" := by
  refine ct_of rfl (by decide +kernel) (Nat.le_of_ble_eq_true rfl) ?_
  show G E m_HS_requireState 0 [(0, .int 0)] [] h 1 6 _ _
  refine g_iload_n (pc := 0) d_HS_requireState_0 rfl 0 rfl ?_
  refine g_if_ne (pc := 1) (tgt := 15) d_HS_requireState_1 (by decide) (fun c_1 => ?_) (fun c_1 => ?_)
  · exact absurd rfl c_1
  · skip
    exact g_throwSW (k := 0) (n := 0) (pc := 4) hE rfl th_ISE 16 rfl d_HS_requireState_4 d_HS_requireState_7 d_HS_requireState_8 d_HS_requireState_11 d_HS_requireState_14 (Nat.le_of_ble_eq_true rfl) (Nat.le_of_ble_eq_true rfl) (Nat.le_of_ble_eq_true rfl) ⟨rfl, rfl⟩
set_option maxRecDepth 20000 in
theorem cs_HS_requireGoodText {E : En} {h : Hp}  : CR E m_HS_requireGoodText [.int 1] h (none) (h) := by
  refine ct_of rfl (by decide +kernel) (Nat.le_of_ble_eq_true rfl) ?_
  show G E m_HS_requireGoodText 0 [(0, .int 1)] [] h 0 0 _ noX
  refine g_iload_n (pc := 0) d_HS_requireGoodText_0 rfl 0 rfl ?_
  refine g_if_ne (pc := 1) (tgt := 15) d_HS_requireGoodText_1 (by decide) (fun c_1 => ?_) (fun c_1 => ?_)
  · skip
    refine g_vret (pc := 15) d_HS_requireGoodText_15 rfl ?_
    exact ⟨rfl, rfl⟩
  · exact absurd c_1 (by decide)
theorem d_HS_day_0 : decode (mC m_HS_day) 0 = .ok (.aload_n 0, 1) := by decide +kernel
theorem d_HS_day_1 : decode (mC m_HS_day) 1 = .ok (.getfield 50, 3) := by decide +kernel
theorem d_HS_day_4 : decode (mC m_HS_day) 4 = .ok (.getfield 177, 3) := by decide +kernel
theorem d_HS_day_7 : decode (mC m_HS_day) 7 = .ok (.ireturn, 1) := by decide +kernel
set_option maxRecDepth 20000 in
theorem cs_HS_day {E : En} {h : Hp} {x b nw sc ni U : Nat} {B : Bu} (k_x : hK h x = 1) (r_x_2 : hR h x 2 = some b) (hB : BuOk h b) (hG : Gd B nw sc ni U) : CR E m_HS_day [.ref x] (wB h b B) (some (.int (B.1 9))) (wB h b B) := by
  refine ct_of rfl (by decide +kernel) (Nat.le_of_ble_eq_true rfl) ?_
  show G E m_HS_day 0 [(0, .ref x)] [] (wB h b B) 0 0 _ noX
  obtain ⟨hw, hn, hs, hm, h0, hni, n3, ⟨sd, hsd, hsx⟩, hop⟩ := id hG.1
  refine g_aload_n (pc := 0) d_HS_day_0 rfl 0 rfl ?_
  refine g_getR (pc := 1) (ci := 0) (f := 2) (b := b) rfl r_x_2 d_HS_day_1 fl_HS_50 (by decide) k_x ?_
  refine g_bgI (pc := 4) (f := 9) rfl d_HS_day_4 fl_HS_177 hB ?_
  refine g_iret (pc := 7) d_HS_day_7 rfl ?_
  exact ⟨rfl, rfl⟩
theorem d_HS_weightCount_0 : decode (mC m_HS_weightCount) 0 = .ok (.aload_n 0, 1) := by decide +kernel
theorem d_HS_weightCount_1 : decode (mC m_HS_weightCount) 1 = .ok (.getfield 50, 3) := by decide +kernel
theorem d_HS_weightCount_4 : decode (mC m_HS_weightCount) 4 = .ok (.getfield 180, 3) := by decide +kernel
theorem d_HS_weightCount_7 : decode (mC m_HS_weightCount) 7 = .ok (.ireturn, 1) := by decide +kernel
set_option maxRecDepth 20000 in
theorem cs_HS_weightCount {E : En} {h : Hp} {x b nw sc ni U : Nat} {B : Bu} (k_x : hK h x = 1) (r_x_2 : hR h x 2 = some b) (hB : BuOk h b) (hG : Gd B nw sc ni U) : CR E m_HS_weightCount [.ref x] (wB h b B) (some (.int (B.1 7))) (wB h b B) := by
  refine ct_of rfl (by decide +kernel) (Nat.le_of_ble_eq_true rfl) ?_
  show G E m_HS_weightCount 0 [(0, .ref x)] [] (wB h b B) 0 0 _ noX
  obtain ⟨hw, hn, hs, hm, h0, hni, n3, ⟨sd, hsd, hsx⟩, hop⟩ := id hG.1
  refine g_aload_n (pc := 0) d_HS_weightCount_0 rfl 0 rfl ?_
  refine g_getR (pc := 1) (ci := 0) (f := 2) (b := b) rfl r_x_2 d_HS_weightCount_1 fl_HS_50 (by decide) k_x ?_
  refine g_bgI (pc := 4) (f := 7) rfl d_HS_weightCount_4 fl_HS_180 hB ?_
  refine g_iret (pc := 7) d_HS_weightCount_7 rfl ?_
  exact ⟨rfl, rfl⟩
theorem d_HS_fee_0 : decode (mC m_HS_fee) 0 = .ok (.aload_n 0, 1) := by decide +kernel
theorem d_HS_fee_1 : decode (mC m_HS_fee) 1 = .ok (.getfield 50, 3) := by decide +kernel
theorem d_HS_fee_4 : decode (mC m_HS_fee) 4 = .ok (.getfield 163, 3) := by decide +kernel
theorem d_HS_fee_7 : decode (mC m_HS_fee) 7 = .ok (.ireturn, 1) := by decide +kernel
set_option maxRecDepth 20000 in
theorem cs_HS_fee {E : En} {h : Hp} {x b nw sc ni U : Nat} {B : Bu} (k_x : hK h x = 1) (r_x_2 : hR h x 2 = some b) (hB : BuOk h b) (hG : Gd B nw sc ni U) : CR E m_HS_fee [.ref x] (wB h b B) (some (.int (B.1 2))) (wB h b B) := by
  refine ct_of rfl (by decide +kernel) (Nat.le_of_ble_eq_true rfl) ?_
  show G E m_HS_fee 0 [(0, .ref x)] [] (wB h b B) 0 0 _ noX
  obtain ⟨hw, hn, hs, hm, h0, hni, n3, ⟨sd, hsd, hsx⟩, hop⟩ := id hG.1
  refine g_aload_n (pc := 0) d_HS_fee_0 rfl 0 rfl ?_
  refine g_getR (pc := 1) (ci := 0) (f := 2) (b := b) rfl r_x_2 d_HS_fee_1 fl_HS_50 (by decide) k_x ?_
  refine g_bgI (pc := 4) (f := 2) rfl d_HS_fee_4 fl_HS_163 hB ?_
  refine g_iret (pc := 7) d_HS_fee_7 rfl ?_
  exact ⟨rfl, rfl⟩
theorem d_HS_inspectors_0 : decode (mC m_HS_inspectors) 0 = .ok (.aload_n 0, 1) := by decide +kernel
theorem d_HS_inspectors_1 : decode (mC m_HS_inspectors) 1 = .ok (.getfield 50, 3) := by decide +kernel
theorem d_HS_inspectors_4 : decode (mC m_HS_inspectors) 4 = .ok (.getfield 160, 3) := by decide +kernel
theorem d_HS_inspectors_7 : decode (mC m_HS_inspectors) 7 = .ok (.ireturn, 1) := by decide +kernel
set_option maxRecDepth 20000 in
theorem cs_HS_inspectors {E : En} {h : Hp} {x b nw sc ni U : Nat} {B : Bu} (k_x : hK h x = 1) (r_x_2 : hR h x 2 = some b) (hB : BuOk h b) (hG : Gd B nw sc ni U) : CR E m_HS_inspectors [.ref x] (wB h b B) (some (.int (B.1 5))) (wB h b B) := by
  refine ct_of rfl (by decide +kernel) (Nat.le_of_ble_eq_true rfl) ?_
  show G E m_HS_inspectors 0 [(0, .ref x)] [] (wB h b B) 0 0 _ noX
  obtain ⟨hw, hn, hs, hm, h0, hni, n3, ⟨sd, hsd, hsx⟩, hop⟩ := id hG.1
  refine g_aload_n (pc := 0) d_HS_inspectors_0 rfl 0 rfl ?_
  refine g_getR (pc := 1) (ci := 0) (f := 2) (b := b) rfl r_x_2 d_HS_inspectors_1 fl_HS_50 (by decide) k_x ?_
  refine g_bgI (pc := 4) (f := 5) rfl d_HS_inspectors_4 fl_HS_160 hB ?_
  refine g_iret (pc := 7) d_HS_inspectors_7 rfl ?_
  exact ⟨rfl, rfl⟩
theorem d_HS_seed_0 : decode (mC m_HS_seed) 0 = .ok (.aload_n 0, 1) := by decide +kernel
theorem d_HS_seed_1 : decode (mC m_HS_seed) 1 = .ok (.getfield 50, 3) := by decide +kernel
theorem d_HS_seed_4 : decode (mC m_HS_seed) 4 = .ok (.getfield 195, 3) := by decide +kernel
theorem d_HS_seed_7 : decode (mC m_HS_seed) 7 = .ok (.ireturn, 1) := by decide +kernel
set_option maxRecDepth 20000 in
theorem cs_HS_seed {E : En} {h : Hp} {x b nw sc ni U : Nat} {B : Bu} (k_x : hK h x = 1) (r_x_2 : hR h x 2 = some b) (hB : BuOk h b) (hG : Gd B nw sc ni U) : CR E m_HS_seed [.ref x] (wB h b B) (some (.int (B.1 6))) (wB h b B) := by
  refine ct_of rfl (by decide +kernel) (Nat.le_of_ble_eq_true rfl) ?_
  show G E m_HS_seed 0 [(0, .ref x)] [] (wB h b B) 0 0 _ noX
  obtain ⟨hw, hn, hs, hm, h0, hni, n3, ⟨sd, hsd, hsx⟩, hop⟩ := id hG.1
  refine g_aload_n (pc := 0) d_HS_seed_0 rfl 0 rfl ?_
  refine g_getR (pc := 1) (ci := 0) (f := 2) (b := b) rfl r_x_2 d_HS_seed_1 fl_HS_50 (by decide) k_x ?_
  refine g_bgI (pc := 4) (f := 6) rfl d_HS_seed_4 fl_HS_195 hB ?_
  refine g_iret (pc := 7) d_HS_seed_7 rfl ?_
  exact ⟨rfl, rfl⟩
theorem d_HS_bureauCoins_0 : decode (mC m_HS_bureauCoins) 0 = .ok (.aload_n 0, 1) := by decide +kernel
theorem d_HS_bureauCoins_1 : decode (mC m_HS_bureauCoins) 1 = .ok (.getfield 50, 3) := by decide +kernel
theorem d_HS_bureauCoins_4 : decode (mC m_HS_bureauCoins) 4 = .ok (.getfield 198, 3) := by decide +kernel
theorem d_HS_bureauCoins_7 : decode (mC m_HS_bureauCoins) 7 = .ok (.ireturn, 1) := by decide +kernel
set_option maxRecDepth 20000 in
theorem cs_HS_bureauCoins {E : En} {h : Hp} {x b nw sc ni U : Nat} {B : Bu} (k_x : hK h x = 1) (r_x_2 : hR h x 2 = some b) (hB : BuOk h b) (hG : Gd B nw sc ni U) : CR E m_HS_bureauCoins [.ref x] (wB h b B) (some (.int (B.1 10))) (wB h b B) := by
  refine ct_of rfl (by decide +kernel) (Nat.le_of_ble_eq_true rfl) ?_
  show G E m_HS_bureauCoins 0 [(0, .ref x)] [] (wB h b B) 0 0 _ noX
  obtain ⟨hw, hn, hs, hm, h0, hni, n3, ⟨sd, hsd, hsx⟩, hop⟩ := id hG.1
  refine g_aload_n (pc := 0) d_HS_bureauCoins_0 rfl 0 rfl ?_
  refine g_getR (pc := 1) (ci := 0) (f := 2) (b := b) rfl r_x_2 d_HS_bureauCoins_1 fl_HS_50 (by decide) k_x ?_
  refine g_bgI (pc := 4) (f := 10) rfl d_HS_bureauCoins_4 fl_HS_198 hB ?_
  refine g_iret (pc := 7) d_HS_bureauCoins_7 rfl ?_
  exact ⟨rfl, rfl⟩
theorem d_HS_visits_0 : decode (mC m_HS_visits) 0 = .ok (.aload_n 0, 1) := by decide +kernel
theorem d_HS_visits_1 : decode (mC m_HS_visits) 1 = .ok (.getfield 50, 3) := by decide +kernel
theorem d_HS_visits_4 : decode (mC m_HS_visits) 4 = .ok (.getfield 201, 3) := by decide +kernel
theorem d_HS_visits_7 : decode (mC m_HS_visits) 7 = .ok (.ireturn, 1) := by decide +kernel
set_option maxRecDepth 20000 in
theorem cs_HS_visits {E : En} {h : Hp} {x b nw sc ni U : Nat} {B : Bu} (k_x : hK h x = 1) (r_x_2 : hR h x 2 = some b) (hB : BuOk h b) (hG : Gd B nw sc ni U) : CR E m_HS_visits [.ref x] (wB h b B) (some (.int (B.1 11))) (wB h b B) := by
  refine ct_of rfl (by decide +kernel) (Nat.le_of_ble_eq_true rfl) ?_
  show G E m_HS_visits 0 [(0, .ref x)] [] (wB h b B) 0 0 _ noX
  obtain ⟨hw, hn, hs, hm, h0, hni, n3, ⟨sd, hsd, hsx⟩, hop⟩ := id hG.1
  refine g_aload_n (pc := 0) d_HS_visits_0 rfl 0 rfl ?_
  refine g_getR (pc := 1) (ci := 0) (f := 2) (b := b) rfl r_x_2 d_HS_visits_1 fl_HS_50 (by decide) k_x ?_
  refine g_bgI (pc := 4) (f := 11) rfl d_HS_visits_4 fl_HS_201 hB ?_
  refine g_iret (pc := 7) d_HS_visits_7 rfl ?_
  exact ⟨rfl, rfl⟩
theorem d_HS_openShops_0 : decode (mC m_HS_openShops) 0 = .ok (.aload_n 0, 1) := by decide +kernel
theorem d_HS_openShops_1 : decode (mC m_HS_openShops) 1 = .ok (.getfield 50, 3) := by decide +kernel
theorem d_HS_openShops_4 : decode (mC m_HS_openShops) 4 = .ok (.invokevirtual 156, 3) := by decide +kernel
theorem d_HS_openShops_7 : decode (mC m_HS_openShops) 7 = .ok (.ireturn, 1) := by decide +kernel
set_option maxRecDepth 20000 in
theorem cs_HS_openShops {E : En} {h : Hp} {x b nw sc ni U : Nat} {B : Bu} (k_x : hK h x = 1) (r_x_2 : hR h x 2 = some b) (hB : BuOk h b) (hG : Gd B nw sc ni U) : CR E m_HS_openShops [.ref x] (wB h b B) (some (.int (nI (P_open B.2.2 sc)))) (wB h b B) := by
  refine ct_of rfl (by decide +kernel) (Nat.le_of_ble_eq_true rfl) ?_
  show G E m_HS_openShops 0 [(0, .ref x)] [] (wB h b B) 0 0 _ noX
  obtain ⟨hw, hn, hs, hm, h0, hni, n3, ⟨sd, hsd, hsx⟩, hop⟩ := id hG.1
  refine g_aload_n (pc := 0) d_HS_openShops_0 rfl 0 rfl ?_
  refine g_getR (pc := 1) (ci := 0) (f := 2) (b := b) rfl r_x_2 d_HS_openShops_1 fl_HS_50 (by decide) k_x ?_
  refine g_cV1 (pc := 4) (ci := 4) (As := []) d_HS_openShops_4 rfl mv_BU_countOpen st_HS_openShops_156 rfl rfl (by decide) rfl rfl (Nat.le_of_ble_eq_true rfl) hB.1 (cb_countOpen hB hs hm) ?_
  refine g_iret (pc := 7) d_HS_openShops_7 rfl ?_
  exact ⟨rfl, rfl⟩
theorem d_HS_offset_0 : decode (mC m_HS_offset) 0 = .ok (.aload_n 0, 1) := by decide +kernel
theorem d_HS_offset_1 : decode (mC m_HS_offset) 1 = .ok (.iload_n 1, 1) := by decide +kernel
theorem d_HS_offset_2 : decode (mC m_HS_offset) 2 = .ok (.invokevirtual 119, 3) := by decide +kernel
theorem d_HS_offset_5 : decode (mC m_HS_offset) 5 = .ok (.getfield 204, 3) := by decide +kernel
theorem d_HS_offset_8 : decode (mC m_HS_offset) 8 = .ok (.ireturn, 1) := by decide +kernel
set_option maxRecDepth 20000 in
theorem cs_HS_offset {E : En} {h : Hp} {x b nw sc ni U : Nat} {B : Bu} {i : Nat} (k_x : hK h x = 1) (r_x_2 : hR h x 2 = some b) (hB : BuOk h b) (hG : Gd B nw sc ni U) (hi : i < sc) : CR E m_HS_offset [.ref x, .int (nI i)] (wB h b B) (some (.int (B.2.2 i 1))) (wB h b B) := by
  refine ct_of rfl (by decide +kernel) (Nat.le_of_ble_eq_true rfl) ?_
  show G E m_HS_offset 0 [(0, .ref x), (1, .int (nI i))] [] (wB h b B) 0 0 _ noX
  obtain ⟨hw, hn, hs, hm, h0, hni, n3, ⟨sd, hsd, hsx⟩, hop⟩ := id hG.1
  refine g_aload_n (pc := 0) d_HS_offset_0 rfl 0 rfl ?_
  refine g_iload_n (pc := 1) d_HS_offset_1 rfl 1 rfl ?_
  refine g_cV1 (pc := 2) (ci := 0) (As := [.int _]) d_HS_offset_2 rfl mv_HS_existingShop st_HS_offset_119 rfl rfl (by decide) rfl rfl (Nat.le_of_ble_eq_true rfl) k_x (cs_HS_existingShop k_x r_x_2 hB hG hi) ?_
  refine g_sgI (pc := 5) (f := 1) rfl d_HS_offset_5 fl_HS_204 hB (by first | assumption | omega | decide) ?_
  refine g_iret (pc := 8) d_HS_offset_8 rfl ?_
  exact ⟨rfl, rfl⟩
theorem d_HS_slope_0 : decode (mC m_HS_slope) 0 = .ok (.aload_n 0, 1) := by decide +kernel
theorem d_HS_slope_1 : decode (mC m_HS_slope) 1 = .ok (.iload_n 1, 1) := by decide +kernel
theorem d_HS_slope_2 : decode (mC m_HS_slope) 2 = .ok (.invokevirtual 119, 3) := by decide +kernel
theorem d_HS_slope_5 : decode (mC m_HS_slope) 5 = .ok (.getfield 207, 3) := by decide +kernel
theorem d_HS_slope_8 : decode (mC m_HS_slope) 8 = .ok (.ireturn, 1) := by decide +kernel
set_option maxRecDepth 20000 in
theorem cs_HS_slope {E : En} {h : Hp} {x b nw sc ni U : Nat} {B : Bu} {i : Nat} (k_x : hK h x = 1) (r_x_2 : hR h x 2 = some b) (hB : BuOk h b) (hG : Gd B nw sc ni U) (hi : i < sc) : CR E m_HS_slope [.ref x, .int (nI i)] (wB h b B) (some (.int (B.2.2 i 2))) (wB h b B) := by
  refine ct_of rfl (by decide +kernel) (Nat.le_of_ble_eq_true rfl) ?_
  show G E m_HS_slope 0 [(0, .ref x), (1, .int (nI i))] [] (wB h b B) 0 0 _ noX
  obtain ⟨hw, hn, hs, hm, h0, hni, n3, ⟨sd, hsd, hsx⟩, hop⟩ := id hG.1
  refine g_aload_n (pc := 0) d_HS_slope_0 rfl 0 rfl ?_
  refine g_iload_n (pc := 1) d_HS_slope_1 rfl 1 rfl ?_
  refine g_cV1 (pc := 2) (ci := 0) (As := [.int _]) d_HS_slope_2 rfl mv_HS_existingShop st_HS_slope_119 rfl rfl (by decide) rfl rfl (Nat.le_of_ble_eq_true rfl) k_x (cs_HS_existingShop k_x r_x_2 hB hG hi) ?_
  refine g_sgI (pc := 5) (f := 2) rfl d_HS_slope_5 fl_HS_207 hB (by first | assumption | omega | decide) ?_
  refine g_iret (pc := 8) d_HS_slope_8 rfl ?_
  exact ⟨rfl, rfl⟩
theorem d_HS_stampedUntil_0 : decode (mC m_HS_stampedUntil) 0 = .ok (.aload_n 0, 1) := by decide +kernel
theorem d_HS_stampedUntil_1 : decode (mC m_HS_stampedUntil) 1 = .ok (.iload_n 1, 1) := by decide +kernel
theorem d_HS_stampedUntil_2 : decode (mC m_HS_stampedUntil) 2 = .ok (.invokevirtual 119, 3) := by decide +kernel
theorem d_HS_stampedUntil_5 : decode (mC m_HS_stampedUntil) 5 = .ok (.getfield 230, 3) := by decide +kernel
theorem d_HS_stampedUntil_8 : decode (mC m_HS_stampedUntil) 8 = .ok (.ireturn, 1) := by decide +kernel
set_option maxRecDepth 20000 in
theorem cs_HS_stampedUntil {E : En} {h : Hp} {x b nw sc ni U : Nat} {B : Bu} {i : Nat} (k_x : hK h x = 1) (r_x_2 : hR h x 2 = some b) (hB : BuOk h b) (hG : Gd B nw sc ni U) (hi : i < sc) : CR E m_HS_stampedUntil [.ref x, .int (nI i)] (wB h b B) (some (.int (B.2.2 i 11))) (wB h b B) := by
  refine ct_of rfl (by decide +kernel) (Nat.le_of_ble_eq_true rfl) ?_
  show G E m_HS_stampedUntil 0 [(0, .ref x), (1, .int (nI i))] [] (wB h b B) 0 0 _ noX
  obtain ⟨hw, hn, hs, hm, h0, hni, n3, ⟨sd, hsd, hsx⟩, hop⟩ := id hG.1
  refine g_aload_n (pc := 0) d_HS_stampedUntil_0 rfl 0 rfl ?_
  refine g_iload_n (pc := 1) d_HS_stampedUntil_1 rfl 1 rfl ?_
  refine g_cV1 (pc := 2) (ci := 0) (As := [.int _]) d_HS_stampedUntil_2 rfl mv_HS_existingShop st_HS_stampedUntil_119 rfl rfl (by decide) rfl rfl (Nat.le_of_ble_eq_true rfl) k_x (cs_HS_existingShop k_x r_x_2 hB hG hi) ?_
  refine g_sgI (pc := 5) (f := 11) rfl d_HS_stampedUntil_5 fl_HS_230 hB (by first | assumption | omega | decide) ?_
  refine g_iret (pc := 8) d_HS_stampedUntil_8 rfl ?_
  exact ⟨rfl, rfl⟩
theorem d_HS_thumb_0 : decode (mC m_HS_thumb) 0 = .ok (.aload_n 0, 1) := by decide +kernel
theorem d_HS_thumb_1 : decode (mC m_HS_thumb) 1 = .ok (.iload_n 1, 1) := by decide +kernel
theorem d_HS_thumb_2 : decode (mC m_HS_thumb) 2 = .ok (.invokevirtual 119, 3) := by decide +kernel
theorem d_HS_thumb_5 : decode (mC m_HS_thumb) 5 = .ok (.getfield 147, 3) := by decide +kernel
theorem d_HS_thumb_8 : decode (mC m_HS_thumb) 8 = .ok (.ireturn, 1) := by decide +kernel
set_option maxRecDepth 20000 in
theorem cs_HS_thumb {E : En} {h : Hp} {x b nw sc ni U : Nat} {B : Bu} {i : Nat} (k_x : hK h x = 1) (r_x_2 : hR h x 2 = some b) (hB : BuOk h b) (hG : Gd B nw sc ni U) (hi : i < sc) : CR E m_HS_thumb [.ref x, .int (nI i)] (wB h b B) (some (.int (B.2.2 i 6))) (wB h b B) := by
  refine ct_of rfl (by decide +kernel) (Nat.le_of_ble_eq_true rfl) ?_
  show G E m_HS_thumb 0 [(0, .ref x), (1, .int (nI i))] [] (wB h b B) 0 0 _ noX
  obtain ⟨hw, hn, hs, hm, h0, hni, n3, ⟨sd, hsd, hsx⟩, hop⟩ := id hG.1
  refine g_aload_n (pc := 0) d_HS_thumb_0 rfl 0 rfl ?_
  refine g_iload_n (pc := 1) d_HS_thumb_1 rfl 1 rfl ?_
  refine g_cV1 (pc := 2) (ci := 0) (As := [.int _]) d_HS_thumb_2 rfl mv_HS_existingShop st_HS_thumb_119 rfl rfl (by decide) rfl rfl (Nat.le_of_ble_eq_true rfl) k_x (cs_HS_existingShop k_x r_x_2 hB hG hi) ?_
  refine g_sgI (pc := 5) (f := 6) rfl d_HS_thumb_5 fl_HS_147 hB (by first | assumption | omega | decide) ?_
  refine g_iret (pc := 8) d_HS_thumb_8 rfl ?_
  exact ⟨rfl, rfl⟩
theorem d_HS_complaints_0 : decode (mC m_HS_complaints) 0 = .ok (.aload_n 0, 1) := by decide +kernel
theorem d_HS_complaints_1 : decode (mC m_HS_complaints) 1 = .ok (.iload_n 1, 1) := by decide +kernel
theorem d_HS_complaints_2 : decode (mC m_HS_complaints) 2 = .ok (.invokevirtual 119, 3) := by decide +kernel
theorem d_HS_complaints_5 : decode (mC m_HS_complaints) 5 = .ok (.getfield 150, 3) := by decide +kernel
theorem d_HS_complaints_8 : decode (mC m_HS_complaints) 8 = .ok (.ireturn, 1) := by decide +kernel
set_option maxRecDepth 20000 in
theorem cs_HS_complaints {E : En} {h : Hp} {x b nw sc ni U : Nat} {B : Bu} {i : Nat} (k_x : hK h x = 1) (r_x_2 : hR h x 2 = some b) (hB : BuOk h b) (hG : Gd B nw sc ni U) (hi : i < sc) : CR E m_HS_complaints [.ref x, .int (nI i)] (wB h b B) (some (.int (B.2.2 i 8))) (wB h b B) := by
  refine ct_of rfl (by decide +kernel) (Nat.le_of_ble_eq_true rfl) ?_
  show G E m_HS_complaints 0 [(0, .ref x), (1, .int (nI i))] [] (wB h b B) 0 0 _ noX
  obtain ⟨hw, hn, hs, hm, h0, hni, n3, ⟨sd, hsd, hsx⟩, hop⟩ := id hG.1
  refine g_aload_n (pc := 0) d_HS_complaints_0 rfl 0 rfl ?_
  refine g_iload_n (pc := 1) d_HS_complaints_1 rfl 1 rfl ?_
  refine g_cV1 (pc := 2) (ci := 0) (As := [.int _]) d_HS_complaints_2 rfl mv_HS_existingShop st_HS_complaints_119 rfl rfl (by decide) rfl rfl (Nat.le_of_ble_eq_true rfl) k_x (cs_HS_existingShop k_x r_x_2 hB hG hi) ?_
  refine g_sgI (pc := 5) (f := 8) rfl d_HS_complaints_5 fl_HS_150 hB (by first | assumption | omega | decide) ?_
  refine g_iret (pc := 8) d_HS_complaints_8 rfl ?_
  exact ⟨rfl, rfl⟩
theorem d_HS_failures_0 : decode (mC m_HS_failures) 0 = .ok (.aload_n 0, 1) := by decide +kernel
theorem d_HS_failures_1 : decode (mC m_HS_failures) 1 = .ok (.iload_n 1, 1) := by decide +kernel
theorem d_HS_failures_2 : decode (mC m_HS_failures) 2 = .ok (.invokevirtual 119, 3) := by decide +kernel
theorem d_HS_failures_5 : decode (mC m_HS_failures) 5 = .ok (.getfield 236, 3) := by decide +kernel
theorem d_HS_failures_8 : decode (mC m_HS_failures) 8 = .ok (.ireturn, 1) := by decide +kernel
set_option maxRecDepth 20000 in
theorem cs_HS_failures {E : En} {h : Hp} {x b nw sc ni U : Nat} {B : Bu} {i : Nat} (k_x : hK h x = 1) (r_x_2 : hR h x 2 = some b) (hB : BuOk h b) (hG : Gd B nw sc ni U) (hi : i < sc) : CR E m_HS_failures [.ref x, .int (nI i)] (wB h b B) (some (.int (B.2.2 i 9))) (wB h b B) := by
  refine ct_of rfl (by decide +kernel) (Nat.le_of_ble_eq_true rfl) ?_
  show G E m_HS_failures 0 [(0, .ref x), (1, .int (nI i))] [] (wB h b B) 0 0 _ noX
  obtain ⟨hw, hn, hs, hm, h0, hni, n3, ⟨sd, hsd, hsx⟩, hop⟩ := id hG.1
  refine g_aload_n (pc := 0) d_HS_failures_0 rfl 0 rfl ?_
  refine g_iload_n (pc := 1) d_HS_failures_1 rfl 1 rfl ?_
  refine g_cV1 (pc := 2) (ci := 0) (As := [.int _]) d_HS_failures_2 rfl mv_HS_existingShop st_HS_failures_119 rfl rfl (by decide) rfl rfl (Nat.le_of_ble_eq_true rfl) k_x (cs_HS_existingShop k_x r_x_2 hB hG hi) ?_
  refine g_sgI (pc := 5) (f := 9) rfl d_HS_failures_5 fl_HS_236 hB (by first | assumption | omega | decide) ?_
  refine g_iret (pc := 8) d_HS_failures_8 rfl ?_
  exact ⟨rfl, rfl⟩
theorem d_HS_latestVisit_0 : decode (mC m_HS_latestVisit) 0 = .ok (.aload_n 0, 1) := by decide +kernel
theorem d_HS_latestVisit_1 : decode (mC m_HS_latestVisit) 1 = .ok (.iload_n 1, 1) := by decide +kernel
theorem d_HS_latestVisit_2 : decode (mC m_HS_latestVisit) 2 = .ok (.invokevirtual 119, 3) := by decide +kernel
theorem d_HS_latestVisit_5 : decode (mC m_HS_latestVisit) 5 = .ok (.getfield 239, 3) := by decide +kernel
theorem d_HS_latestVisit_8 : decode (mC m_HS_latestVisit) 8 = .ok (.ireturn, 1) := by decide +kernel
set_option maxRecDepth 20000 in
theorem cs_HS_latestVisit {E : En} {h : Hp} {x b nw sc ni U : Nat} {B : Bu} {i : Nat} (k_x : hK h x = 1) (r_x_2 : hR h x 2 = some b) (hB : BuOk h b) (hG : Gd B nw sc ni U) (hi : i < sc) : CR E m_HS_latestVisit [.ref x, .int (nI i)] (wB h b B) (some (.int (B.2.2 i 10))) (wB h b B) := by
  refine ct_of rfl (by decide +kernel) (Nat.le_of_ble_eq_true rfl) ?_
  show G E m_HS_latestVisit 0 [(0, .ref x), (1, .int (nI i))] [] (wB h b B) 0 0 _ noX
  obtain ⟨hw, hn, hs, hm, h0, hni, n3, ⟨sd, hsd, hsx⟩, hop⟩ := id hG.1
  refine g_aload_n (pc := 0) d_HS_latestVisit_0 rfl 0 rfl ?_
  refine g_iload_n (pc := 1) d_HS_latestVisit_1 rfl 1 rfl ?_
  refine g_cV1 (pc := 2) (ci := 0) (As := [.int _]) d_HS_latestVisit_2 rfl mv_HS_existingShop st_HS_latestVisit_119 rfl rfl (by decide) rfl rfl (Nat.le_of_ble_eq_true rfl) k_x (cs_HS_existingShop k_x r_x_2 hB hG hi) ?_
  refine g_sgI (pc := 5) (f := 10) rfl d_HS_latestVisit_5 fl_HS_239 hB (by first | assumption | omega | decide) ?_
  refine g_iret (pc := 8) d_HS_latestVisit_8 rfl ?_
  exact ⟨rfl, rfl⟩
theorem d_HS_finesOf_0 : decode (mC m_HS_finesOf) 0 = .ok (.aload_n 0, 1) := by decide +kernel
theorem d_HS_finesOf_1 : decode (mC m_HS_finesOf) 1 = .ok (.iload_n 1, 1) := by decide +kernel
theorem d_HS_finesOf_2 : decode (mC m_HS_finesOf) 2 = .ok (.invokevirtual 119, 3) := by decide +kernel
theorem d_HS_finesOf_5 : decode (mC m_HS_finesOf) 5 = .ok (.getfield 242, 3) := by decide +kernel
theorem d_HS_finesOf_8 : decode (mC m_HS_finesOf) 8 = .ok (.ireturn, 1) := by decide +kernel
set_option maxRecDepth 20000 in
theorem cs_HS_finesOf {E : En} {h : Hp} {x b nw sc ni U : Nat} {B : Bu} {i : Nat} (k_x : hK h x = 1) (r_x_2 : hR h x 2 = some b) (hB : BuOk h b) (hG : Gd B nw sc ni U) (hi : i < sc) : CR E m_HS_finesOf [.ref x, .int (nI i)] (wB h b B) (some (.int (B.2.2 i 13))) (wB h b B) := by
  refine ct_of rfl (by decide +kernel) (Nat.le_of_ble_eq_true rfl) ?_
  show G E m_HS_finesOf 0 [(0, .ref x), (1, .int (nI i))] [] (wB h b B) 0 0 _ noX
  obtain ⟨hw, hn, hs, hm, h0, hni, n3, ⟨sd, hsd, hsx⟩, hop⟩ := id hG.1
  refine g_aload_n (pc := 0) d_HS_finesOf_0 rfl 0 rfl ?_
  refine g_iload_n (pc := 1) d_HS_finesOf_1 rfl 1 rfl ?_
  refine g_cV1 (pc := 2) (ci := 0) (As := [.int _]) d_HS_finesOf_2 rfl mv_HS_existingShop st_HS_finesOf_119 rfl rfl (by decide) rfl rfl (Nat.le_of_ble_eq_true rfl) k_x (cs_HS_existingShop k_x r_x_2 hB hG hi) ?_
  refine g_sgI (pc := 5) (f := 13) rfl d_HS_finesOf_5 fl_HS_242 hB (by first | assumption | omega | decide) ?_
  refine g_iret (pc := 8) d_HS_finesOf_8 rfl ?_
  exact ⟨rfl, rfl⟩
theorem d_HS_gainsOf_0 : decode (mC m_HS_gainsOf) 0 = .ok (.aload_n 0, 1) := by decide +kernel
theorem d_HS_gainsOf_1 : decode (mC m_HS_gainsOf) 1 = .ok (.iload_n 1, 1) := by decide +kernel
theorem d_HS_gainsOf_2 : decode (mC m_HS_gainsOf) 2 = .ok (.invokevirtual 119, 3) := by decide +kernel
theorem d_HS_gainsOf_5 : decode (mC m_HS_gainsOf) 5 = .ok (.getfield 245, 3) := by decide +kernel
theorem d_HS_gainsOf_8 : decode (mC m_HS_gainsOf) 8 = .ok (.ireturn, 1) := by decide +kernel
set_option maxRecDepth 20000 in
theorem cs_HS_gainsOf {E : En} {h : Hp} {x b nw sc ni U : Nat} {B : Bu} {i : Nat} (k_x : hK h x = 1) (r_x_2 : hR h x 2 = some b) (hB : BuOk h b) (hG : Gd B nw sc ni U) (hi : i < sc) : CR E m_HS_gainsOf [.ref x, .int (nI i)] (wB h b B) (some (.int (B.2.2 i 14))) (wB h b B) := by
  refine ct_of rfl (by decide +kernel) (Nat.le_of_ble_eq_true rfl) ?_
  show G E m_HS_gainsOf 0 [(0, .ref x), (1, .int (nI i))] [] (wB h b B) 0 0 _ noX
  obtain ⟨hw, hn, hs, hm, h0, hni, n3, ⟨sd, hsd, hsx⟩, hop⟩ := id hG.1
  refine g_aload_n (pc := 0) d_HS_gainsOf_0 rfl 0 rfl ?_
  refine g_iload_n (pc := 1) d_HS_gainsOf_1 rfl 1 rfl ?_
  refine g_cV1 (pc := 2) (ci := 0) (As := [.int _]) d_HS_gainsOf_2 rfl mv_HS_existingShop st_HS_gainsOf_119 rfl rfl (by decide) rfl rfl (Nat.le_of_ble_eq_true rfl) k_x (cs_HS_existingShop k_x r_x_2 hB hG hi) ?_
  refine g_sgI (pc := 5) (f := 14) rfl d_HS_gainsOf_5 fl_HS_245 hB (by first | assumption | omega | decide) ?_
  refine g_iret (pc := 8) d_HS_gainsOf_8 rfl ?_
  exact ⟨rfl, rfl⟩
theorem d_HS_purse_0 : decode (mC m_HS_purse) 0 = .ok (.aload_n 0, 1) := by decide +kernel
theorem d_HS_purse_1 : decode (mC m_HS_purse) 1 = .ok (.iload_n 1, 1) := by decide +kernel
theorem d_HS_purse_2 : decode (mC m_HS_purse) 2 = .ok (.invokevirtual 119, 3) := by decide +kernel
theorem d_HS_purse_5 : decode (mC m_HS_purse) 5 = .ok (.getfield 144, 3) := by decide +kernel
theorem d_HS_purse_8 : decode (mC m_HS_purse) 8 = .ok (.ireturn, 1) := by decide +kernel
set_option maxRecDepth 20000 in
theorem cs_HS_purse {E : En} {h : Hp} {x b nw sc ni U : Nat} {B : Bu} {i : Nat} (k_x : hK h x = 1) (r_x_2 : hR h x 2 = some b) (hB : BuOk h b) (hG : Gd B nw sc ni U) (hi : i < sc) : CR E m_HS_purse [.ref x, .int (nI i)] (wB h b B) (some (.int (B.2.2 i 0))) (wB h b B) := by
  refine ct_of rfl (by decide +kernel) (Nat.le_of_ble_eq_true rfl) ?_
  show G E m_HS_purse 0 [(0, .ref x), (1, .int (nI i))] [] (wB h b B) 0 0 _ noX
  obtain ⟨hw, hn, hs, hm, h0, hni, n3, ⟨sd, hsd, hsx⟩, hop⟩ := id hG.1
  refine g_aload_n (pc := 0) d_HS_purse_0 rfl 0 rfl ?_
  refine g_iload_n (pc := 1) d_HS_purse_1 rfl 1 rfl ?_
  refine g_cV1 (pc := 2) (ci := 0) (As := [.int _]) d_HS_purse_2 rfl mv_HS_existingShop st_HS_purse_119 rfl rfl (by decide) rfl rfl (Nat.le_of_ble_eq_true rfl) k_x (cs_HS_existingShop k_x r_x_2 hB hG hi) ?_
  refine g_sgI (pc := 5) (f := 0) rfl d_HS_purse_5 fl_HS_144 hB (by first | assumption | omega | decide) ?_
  refine g_iret (pc := 8) d_HS_purse_8 rfl ?_
  exact ⟨rfl, rfl⟩
theorem d_HS_isOpen_0 : decode (mC m_HS_isOpen) 0 = .ok (.aload_n 0, 1) := by decide +kernel
theorem d_HS_isOpen_1 : decode (mC m_HS_isOpen) 1 = .ok (.iload_n 1, 1) := by decide +kernel
theorem d_HS_isOpen_2 : decode (mC m_HS_isOpen) 2 = .ok (.invokevirtual 119, 3) := by decide +kernel
theorem d_HS_isOpen_5 : decode (mC m_HS_isOpen) 5 = .ok (.getfield 123, 3) := by decide +kernel
theorem d_HS_isOpen_8 : decode (mC m_HS_isOpen) 8 = .ok (.ireturn, 1) := by decide +kernel
set_option maxRecDepth 20000 in
theorem cs_HS_isOpen {E : En} {h : Hp} {x b nw sc ni U : Nat} {B : Bu} {i : Nat} (k_x : hK h x = 1) (r_x_2 : hR h x 2 = some b) (hB : BuOk h b) (hG : Gd B nw sc ni U) (hi : i < sc) : CR E m_HS_isOpen [.ref x, .int (nI i)] (wB h b B) (some (.int (bI (decide (B.2.2 i 12 ≠ 0))))) (wB h b B) := by
  refine ct_of rfl (by decide +kernel) (Nat.le_of_ble_eq_true rfl) ?_
  show G E m_HS_isOpen 0 [(0, .ref x), (1, .int (nI i))] [] (wB h b B) 0 0 _ noX
  obtain ⟨hw, hn, hs, hm, h0, hni, n3, ⟨sd, hsd, hsx⟩, hop⟩ := id hG.1
  refine g_aload_n (pc := 0) d_HS_isOpen_0 rfl 0 rfl ?_
  refine g_iload_n (pc := 1) d_HS_isOpen_1 rfl 1 rfl ?_
  refine g_cV1 (pc := 2) (ci := 0) (As := [.int _]) d_HS_isOpen_2 rfl mv_HS_existingShop st_HS_isOpen_119 rfl rfl (by decide) rfl rfl (Nat.le_of_ble_eq_true rfl) k_x (cs_HS_existingShop k_x r_x_2 hB hG hi) ?_
  refine g_sgI (pc := 5) (f := 12) rfl d_HS_isOpen_5 fl_HS_123 hB (by first | assumption | omega | decide) ?_
  refine g_top (op_bI (hop i hi)) ?_
  refine g_zret (pc := 8) d_HS_isOpen_8 rfl (by first | rfl | exact nar_bI _) ?_
  exact ⟨rfl, rfl⟩
theorem d_HS_totalExcess_0 : decode (mC m_HS_totalExcess) 0 = .ok (.aload_n 0, 1) := by decide +kernel
theorem d_HS_totalExcess_1 : decode (mC m_HS_totalExcess) 1 = .ok (.getfield 50, 3) := by decide +kernel
theorem d_HS_totalExcess_4 : decode (mC m_HS_totalExcess) 4 = .ok (.aload_n 0, 1) := by decide +kernel
theorem d_HS_totalExcess_5 : decode (mC m_HS_totalExcess) 5 = .ok (.iload_n 1, 1) := by decide +kernel
theorem d_HS_totalExcess_6 : decode (mC m_HS_totalExcess) 6 = .ok (.invokevirtual 119, 3) := by decide +kernel
theorem d_HS_totalExcess_9 : decode (mC m_HS_totalExcess) 9 = .ok (.invokevirtual 220, 3) := by decide +kernel
theorem d_HS_totalExcess_12 : decode (mC m_HS_totalExcess) 12 = .ok (.ireturn, 1) := by decide +kernel
set_option maxRecDepth 20000 in
theorem cs_HS_totalExcess {E : En} {h : Hp} {x b nw sc ni U : Nat} {B : Bu} {i : Nat} (k_x : hK h x = 1) (r_x_2 : hR h x 2 = some b) (hB : BuOk h b) (hG : Gd B nw sc ni U) (hi : i < sc) : CR E m_HS_totalExcess [.ref x, .int (nI i)] (wB h b B) (some (.int (M_tot B.1 B.2.1 (B.2.2 i) nw))) (wB h b B) := by
  refine ct_of rfl (by decide +kernel) (Nat.le_of_ble_eq_true rfl) ?_
  show G E m_HS_totalExcess 0 [(0, .ref x), (1, .int (nI i))] [] (wB h b B) 0 0 _ noX
  obtain ⟨hw, hn, hs, hm, h0, hni, n3, ⟨sd, hsd, hsx⟩, hop⟩ := id hG.1
  refine g_aload_n (pc := 0) d_HS_totalExcess_0 rfl 0 rfl ?_
  refine g_getR (pc := 1) (ci := 0) (f := 2) (b := b) rfl r_x_2 d_HS_totalExcess_1 fl_HS_50 (by decide) k_x ?_
  refine g_aload_n (pc := 4) d_HS_totalExcess_4 rfl 0 rfl ?_
  refine g_iload_n (pc := 5) d_HS_totalExcess_5 rfl 1 rfl ?_
  refine g_cV1 (pc := 6) (ci := 0) (As := [.int _]) d_HS_totalExcess_6 rfl mv_HS_existingShop st_HS_totalExcess_119 rfl rfl (by decide) rfl rfl (Nat.le_of_ble_eq_true rfl) k_x (cs_HS_existingShop k_x r_x_2 hB hG hi) ?_
  refine g_cV1 (pc := 9) (ci := 4) (As := [.ref _]) d_HS_totalExcess_9 rfl mv_BU_totalFor st_HS_totalExcess_220 rfl rfl (by decide) rfl rfl (Nat.le_of_ble_eq_true rfl) hB.1 (cb_totalFor hB (by first | assumption | omega | decide) hw hn) ?_
  refine g_iret (pc := 12) d_HS_totalExcess_12 rfl ?_
  exact ⟨rfl, rfl⟩
theorem d_HS_isTrue_0 : decode (mC m_HS_isTrue) 0 = .ok (.aload_n 0, 1) := by decide +kernel
theorem d_HS_isTrue_1 : decode (mC m_HS_isTrue) 1 = .ok (.getfield 50, 3) := by decide +kernel
theorem d_HS_isTrue_4 : decode (mC m_HS_isTrue) 4 = .ok (.aload_n 0, 1) := by decide +kernel
theorem d_HS_isTrue_5 : decode (mC m_HS_isTrue) 5 = .ok (.iload_n 1, 1) := by decide +kernel
theorem d_HS_isTrue_6 : decode (mC m_HS_isTrue) 6 = .ok (.invokevirtual 119, 3) := by decide +kernel
theorem d_HS_isTrue_9 : decode (mC m_HS_isTrue) 9 = .ok (.invokevirtual 223, 3) := by decide +kernel
theorem d_HS_isTrue_12 : decode (mC m_HS_isTrue) 12 = .ok (.ireturn, 1) := by decide +kernel
set_option maxRecDepth 20000 in
theorem cs_HS_isTrue {E : En} {h : Hp} {x b nw sc ni U : Nat} {B : Bu} {i : Nat} (k_x : hK h x = 1) (r_x_2 : hR h x 2 = some b) (hB : BuOk h b) (hG : Gd B nw sc ni U) (hi : i < sc) : CR E m_HS_isTrue [.ref x, .int (nI i)] (wB h b B) (some (.int (bI (decide ((M_tot B.1 B.2.1 (B.2.2 i) nw) = 0))))) (wB h b B) := by
  refine ct_of rfl (by decide +kernel) (Nat.le_of_ble_eq_true rfl) ?_
  show G E m_HS_isTrue 0 [(0, .ref x), (1, .int (nI i))] [] (wB h b B) 0 0 _ noX
  obtain ⟨hw, hn, hs, hm, h0, hni, n3, ⟨sd, hsd, hsx⟩, hop⟩ := id hG.1
  refine g_aload_n (pc := 0) d_HS_isTrue_0 rfl 0 rfl ?_
  refine g_getR (pc := 1) (ci := 0) (f := 2) (b := b) rfl r_x_2 d_HS_isTrue_1 fl_HS_50 (by decide) k_x ?_
  refine g_aload_n (pc := 4) d_HS_isTrue_4 rfl 0 rfl ?_
  refine g_iload_n (pc := 5) d_HS_isTrue_5 rfl 1 rfl ?_
  refine g_cV1 (pc := 6) (ci := 0) (As := [.int _]) d_HS_isTrue_6 rfl mv_HS_existingShop st_HS_isTrue_119 rfl rfl (by decide) rfl rfl (Nat.le_of_ble_eq_true rfl) k_x (cs_HS_existingShop k_x r_x_2 hB hG hi) ?_
  refine g_cV1 (pc := 9) (ci := 4) (As := [.ref _]) d_HS_isTrue_9 rfl mv_BU_hasTrueScale st_HS_isTrue_223 rfl rfl (by decide) rfl rfl (Nat.le_of_ble_eq_true rfl) hB.1 (cb_hasTrueScale hB (by first | assumption | omega | decide) hw hn) ?_
  refine g_zret (pc := 12) d_HS_isTrue_12 rfl (by first | rfl | exact nar_bI _) ?_
  exact ⟨rfl, rfl⟩
theorem d_HS_worstWeight_0 : decode (mC m_HS_worstWeight) 0 = .ok (.aload_n 0, 1) := by decide +kernel
theorem d_HS_worstWeight_1 : decode (mC m_HS_worstWeight) 1 = .ok (.getfield 50, 3) := by decide +kernel
theorem d_HS_worstWeight_4 : decode (mC m_HS_worstWeight) 4 = .ok (.aload_n 0, 1) := by decide +kernel
theorem d_HS_worstWeight_5 : decode (mC m_HS_worstWeight) 5 = .ok (.iload_n 1, 1) := by decide +kernel
theorem d_HS_worstWeight_6 : decode (mC m_HS_worstWeight) 6 = .ok (.invokevirtual 119, 3) := by decide +kernel
theorem d_HS_worstWeight_9 : decode (mC m_HS_worstWeight) 9 = .ok (.invokevirtual 227, 3) := by decide +kernel
theorem d_HS_worstWeight_12 : decode (mC m_HS_worstWeight) 12 = .ok (.ireturn, 1) := by decide +kernel
set_option maxRecDepth 20000 in
theorem cs_HS_worstWeight {E : En} {h : Hp} {x b nw sc ni U : Nat} {B : Bu} {i : Nat} (k_x : hK h x = 1) (r_x_2 : hR h x 2 = some b) (hB : BuOk h b) (hG : Gd B nw sc ni U) (hi : i < sc) : CR E m_HS_worstWeight [.ref x, .int (nI i)] (wB h b B) (some (.int (nI (P_worst B.1 B.2.1 (B.2.2 i) (nw - 1))))) (wB h b B) := by
  refine ct_of rfl (by decide +kernel) (Nat.le_of_ble_eq_true rfl) ?_
  show G E m_HS_worstWeight 0 [(0, .ref x), (1, .int (nI i))] [] (wB h b B) 0 0 _ noX
  obtain ⟨hw, hn, hs, hm, h0, hni, n3, ⟨sd, hsd, hsx⟩, hop⟩ := id hG.1
  refine g_aload_n (pc := 0) d_HS_worstWeight_0 rfl 0 rfl ?_
  refine g_getR (pc := 1) (ci := 0) (f := 2) (b := b) rfl r_x_2 d_HS_worstWeight_1 fl_HS_50 (by decide) k_x ?_
  refine g_aload_n (pc := 4) d_HS_worstWeight_4 rfl 0 rfl ?_
  refine g_iload_n (pc := 5) d_HS_worstWeight_5 rfl 1 rfl ?_
  refine g_cV1 (pc := 6) (ci := 0) (As := [.int _]) d_HS_worstWeight_6 rfl mv_HS_existingShop st_HS_worstWeight_119 rfl rfl (by decide) rfl rfl (Nat.le_of_ble_eq_true rfl) k_x (cs_HS_existingShop k_x r_x_2 hB hG hi) ?_
  refine g_cV1 (pc := 9) (ci := 4) (As := [.ref _]) d_HS_worstWeight_9 rfl mv_BU_worstWeightFor st_HS_worstWeight_227 rfl rfl (by decide) rfl rfl (Nat.le_of_ble_eq_true rfl) hB.1 (cb_worstWeightFor hB (by omega) hw hn) ?_
  refine g_iret (pc := 12) d_HS_worstWeight_12 rfl ?_
  exact ⟨rfl, rfl⟩
theorem d_HS_isStamped_0 : decode (mC m_HS_isStamped) 0 = .ok (.aload_n 0, 1) := by decide +kernel
theorem d_HS_isStamped_1 : decode (mC m_HS_isStamped) 1 = .ok (.iload_n 1, 1) := by decide +kernel
theorem d_HS_isStamped_2 : decode (mC m_HS_isStamped) 2 = .ok (.invokevirtual 119, 3) := by decide +kernel
theorem d_HS_isStamped_5 : decode (mC m_HS_isStamped) 5 = .ok (.aload_n 0, 1) := by decide +kernel
theorem d_HS_isStamped_6 : decode (mC m_HS_isStamped) 6 = .ok (.getfield 50, 3) := by decide +kernel
theorem d_HS_isStamped_9 : decode (mC m_HS_isStamped) 9 = .ok (.getfield 177, 3) := by decide +kernel
theorem d_HS_isStamped_12 : decode (mC m_HS_isStamped) 12 = .ok (.invokevirtual 233, 3) := by decide +kernel
theorem d_HS_isStamped_15 : decode (mC m_HS_isStamped) 15 = .ok (.ireturn, 1) := by decide +kernel
set_option maxRecDepth 20000 in
theorem cs_HS_isStamped {E : En} {h : Hp} {x b nw sc ni U : Nat} {B : Bu} {i : Nat} (k_x : hK h x = 1) (r_x_2 : hR h x 2 = some b) (hB : BuOk h b) (hG : Gd B nw sc ni U) (hi : i < sc) : CR E m_HS_isStamped [.ref x, .int (nI i)] (wB h b B) (some (.int (bI (M_stamped (B.2.2 i) (B.1 9))))) (wB h b B) := by
  refine ct_of rfl (by decide +kernel) (Nat.le_of_ble_eq_true rfl) ?_
  show G E m_HS_isStamped 0 [(0, .ref x), (1, .int (nI i))] [] (wB h b B) 0 0 _ noX
  obtain ⟨hw, hn, hs, hm, h0, hni, n3, ⟨sd, hsd, hsx⟩, hop⟩ := id hG.1
  refine g_aload_n (pc := 0) d_HS_isStamped_0 rfl 0 rfl ?_
  refine g_iload_n (pc := 1) d_HS_isStamped_1 rfl 1 rfl ?_
  refine g_cV1 (pc := 2) (ci := 0) (As := [.int _]) d_HS_isStamped_2 rfl mv_HS_existingShop st_HS_isStamped_119 rfl rfl (by decide) rfl rfl (Nat.le_of_ble_eq_true rfl) k_x (cs_HS_existingShop k_x r_x_2 hB hG hi) ?_
  refine g_aload_n (pc := 5) d_HS_isStamped_5 rfl 0 rfl ?_
  refine g_getR (pc := 6) (ci := 0) (f := 2) (b := b) rfl r_x_2 d_HS_isStamped_6 fl_HS_50 (by decide) k_x ?_
  refine g_bgI (pc := 9) (f := 9) rfl d_HS_isStamped_9 fl_HS_177 hB ?_
  refine g_cV1 (pc := 12) (ci := 5) (As := [.int _]) d_HS_isStamped_12 rfl mv_SH_isStampedOn st_HS_isStamped_233 rfl rfl (by decide) rfl rfl (Nat.le_of_ble_eq_true rfl) (hB.sk (by first | assumption | omega | decide)) (cb_isStampedOn hB (by first | assumption | omega | decide)) ?_
  refine g_zret (pc := 15) d_HS_isStamped_15 rfl (by first | rfl | exact nar_bI _) ?_
  exact ⟨rfl, rfl⟩
theorem d_HS_usesThumb_0 : decode (mC m_HS_usesThumb) 0 = .ok (.aload_n 0, 1) := by decide +kernel
theorem d_HS_usesThumb_1 : decode (mC m_HS_usesThumb) 1 = .ok (.iload_n 1, 1) := by decide +kernel
theorem d_HS_usesThumb_2 : decode (mC m_HS_usesThumb) 2 = .ok (.invokevirtual 119, 3) := by decide +kernel
theorem d_HS_usesThumb_5 : decode (mC m_HS_usesThumb) 5 = .ok (.aload_n 0, 1) := by decide +kernel
theorem d_HS_usesThumb_6 : decode (mC m_HS_usesThumb) 6 = .ok (.getfield 50, 3) := by decide +kernel
theorem d_HS_usesThumb_9 : decode (mC m_HS_usesThumb) 9 = .ok (.getfield 177, 3) := by decide +kernel
theorem d_HS_usesThumb_12 : decode (mC m_HS_usesThumb) 12 = .ok (.iconst 1, 1) := by decide +kernel
theorem d_HS_usesThumb_13 : decode (mC m_HS_usesThumb) 13 = .ok (.iadd, 1) := by decide +kernel
theorem d_HS_usesThumb_14 : decode (mC m_HS_usesThumb) 14 = .ok (.invokevirtual 251, 3) := by decide +kernel
theorem d_HS_usesThumb_17 : decode (mC m_HS_usesThumb) 17 = .ok (.ireturn, 1) := by decide +kernel
set_option maxRecDepth 20000 in
theorem cs_HS_usesThumb {E : En} {h : Hp} {x b nw sc ni U : Nat} {B : Bu} {i : Nat} (k_x : hK h x = 1) (r_x_2 : hR h x 2 = some b) (hB : BuOk h b) (hG : Gd B nw sc ni U) (hi : i < sc) : CR E m_HS_usesThumb [.ref x, .int (nI i)] (wB h b B) (some (.int (bI (M_uses (B.2.2 i) (B.1 9 + 1))))) (wB h b B) := by
  refine ct_of rfl (by decide +kernel) (Nat.le_of_ble_eq_true rfl) ?_
  show G E m_HS_usesThumb 0 [(0, .ref x), (1, .int (nI i))] [] (wB h b B) 0 0 _ noX
  obtain ⟨hw, hn, hs, hm, h0, hni, n3, ⟨sd, hsd, hsx⟩, hop⟩ := id hG.1
  refine g_aload_n (pc := 0) d_HS_usesThumb_0 rfl 0 rfl ?_
  refine g_iload_n (pc := 1) d_HS_usesThumb_1 rfl 1 rfl ?_
  refine g_cV1 (pc := 2) (ci := 0) (As := [.int _]) d_HS_usesThumb_2 rfl mv_HS_existingShop st_HS_usesThumb_119 rfl rfl (by decide) rfl rfl (Nat.le_of_ble_eq_true rfl) k_x (cs_HS_existingShop k_x r_x_2 hB hG hi) ?_
  refine g_aload_n (pc := 5) d_HS_usesThumb_5 rfl 0 rfl ?_
  refine g_getR (pc := 6) (ci := 0) (f := 2) (b := b) rfl r_x_2 d_HS_usesThumb_6 fl_HS_50 (by decide) k_x ?_
  refine g_bgI (pc := 9) (f := 9) rfl d_HS_usesThumb_9 fl_HS_177 hB ?_
  refine g_iconst (pc := 12) (v := 1) d_HS_usesThumb_12 (by decide) ?_
  refine g_iadd (pc := 13) d_HS_usesThumb_13 ?_
  refine g_cV1 (pc := 14) (ci := 5) (As := [.int _]) d_HS_usesThumb_14 rfl mv_SH_usesThumbOn st_HS_usesThumb_251 rfl rfl (by decide) rfl rfl (Nat.le_of_ble_eq_true rfl) (hB.sk (by first | assumption | omega | decide)) (cb_usesThumbOn hB (by first | assumption | omega | decide)) ?_
  refine g_zret (pc := 17) d_HS_usesThumb_17 rfl (by first | rfl | exact nar_bI _) ?_
  exact ⟨rfl, rfl⟩
theorem d_HS_fineIfVisited_0 : decode (mC m_HS_fineIfVisited) 0 = .ok (.aload_n 0, 1) := by decide +kernel
theorem d_HS_fineIfVisited_1 : decode (mC m_HS_fineIfVisited) 1 = .ok (.iload_n 1, 1) := by decide +kernel
theorem d_HS_fineIfVisited_2 : decode (mC m_HS_fineIfVisited) 2 = .ok (.invokevirtual 119, 3) := by decide +kernel
theorem d_HS_fineIfVisited_5 : decode (mC m_HS_fineIfVisited) 5 = .ok (.astore_n 2, 1) := by decide +kernel
theorem d_HS_fineIfVisited_6 : decode (mC m_HS_fineIfVisited) 6 = .ok (.aload_n 0, 1) := by decide +kernel
theorem d_HS_fineIfVisited_7 : decode (mC m_HS_fineIfVisited) 7 = .ok (.getfield 50, 3) := by decide +kernel
theorem d_HS_fineIfVisited_10 : decode (mC m_HS_fineIfVisited) 10 = .ok (.aload_n 0, 1) := by decide +kernel
theorem d_HS_fineIfVisited_11 : decode (mC m_HS_fineIfVisited) 11 = .ok (.getfield 50, 3) := by decide +kernel
theorem d_HS_fineIfVisited_14 : decode (mC m_HS_fineIfVisited) 14 = .ok (.aload_n 2, 1) := by decide +kernel
theorem d_HS_fineIfVisited_15 : decode (mC m_HS_fineIfVisited) 15 = .ok (.invokevirtual 220, 3) := by decide +kernel
theorem d_HS_fineIfVisited_18 : decode (mC m_HS_fineIfVisited) 18 = .ok (.aload_n 2, 1) := by decide +kernel
theorem d_HS_fineIfVisited_19 : decode (mC m_HS_fineIfVisited) 19 = .ok (.aload_n 0, 1) := by decide +kernel
theorem d_HS_fineIfVisited_20 : decode (mC m_HS_fineIfVisited) 20 = .ok (.getfield 50, 3) := by decide +kernel
theorem d_HS_fineIfVisited_23 : decode (mC m_HS_fineIfVisited) 23 = .ok (.getfield 177, 3) := by decide +kernel
theorem d_HS_fineIfVisited_26 : decode (mC m_HS_fineIfVisited) 26 = .ok (.invokevirtual 233, 3) := by decide +kernel
theorem d_HS_fineIfVisited_29 : decode (mC m_HS_fineIfVisited) 29 = .ok (.invokevirtual 254, 3) := by decide +kernel
theorem d_HS_fineIfVisited_32 : decode (mC m_HS_fineIfVisited) 32 = .ok (.ireturn, 1) := by decide +kernel
set_option maxRecDepth 20000 in
theorem cs_HS_fineIfVisited {E : En} {h : Hp} {x b nw sc ni U : Nat} {B : Bu} {i : Nat} (k_x : hK h x = 1) (r_x_2 : hR h x 2 = some b) (hB : BuOk h b) (hG : Gd B nw sc ni U) (hi : i < sc) : CR E m_HS_fineIfVisited [.ref x, .int (nI i)] (wB h b B) (some (.int (M_fine B.1 (M_tot B.1 B.2.1 (B.2.2 i) nw) (M_stamped (B.2.2 i) (B.1 9))))) (wB h b B) := by
  refine ct_of rfl (by decide +kernel) (Nat.le_of_ble_eq_true rfl) ?_
  show G E m_HS_fineIfVisited 0 [(0, .ref x), (1, .int (nI i))] [] (wB h b B) 0 0 _ noX
  obtain ⟨hw, hn, hs, hm, h0, hni, n3, ⟨sd, hsd, hsx⟩, hop⟩ := id hG.1
  refine g_aload_n (pc := 0) d_HS_fineIfVisited_0 rfl 0 rfl ?_
  refine g_iload_n (pc := 1) d_HS_fineIfVisited_1 rfl 1 rfl ?_
  refine g_cV1 (pc := 2) (ci := 0) (As := [.int _]) d_HS_fineIfVisited_2 rfl mv_HS_existingShop st_HS_fineIfVisited_119 rfl rfl (by decide) rfl rfl (Nat.le_of_ble_eq_true rfl) k_x (cs_HS_existingShop k_x r_x_2 hB hG hi) ?_
  refine g_astore_n (pc := 5) (lv' := [(2, .ref (sh h b i)), (0, .ref x), (1, .int (nI i))]) d_HS_fineIfVisited_5 rfl (by decide) rfl ?_
  refine g_aload_n (pc := 6) d_HS_fineIfVisited_6 rfl 1 rfl ?_
  refine g_getR (pc := 7) (ci := 0) (f := 2) (b := b) rfl r_x_2 d_HS_fineIfVisited_7 fl_HS_50 (by decide) k_x ?_
  refine g_aload_n (pc := 10) d_HS_fineIfVisited_10 rfl 1 rfl ?_
  refine g_getR (pc := 11) (ci := 0) (f := 2) (b := b) rfl r_x_2 d_HS_fineIfVisited_11 fl_HS_50 (by decide) k_x ?_
  refine g_aload_n (pc := 14) d_HS_fineIfVisited_14 rfl 0 rfl ?_
  refine g_cV1 (pc := 15) (ci := 4) (As := [.ref _]) d_HS_fineIfVisited_15 rfl mv_BU_totalFor st_HS_fineIfVisited_220 rfl rfl (by decide) rfl rfl (Nat.le_of_ble_eq_true rfl) hB.1 (cb_totalFor hB (by first | assumption | omega | decide) hw hn) ?_
  refine g_aload_n (pc := 18) d_HS_fineIfVisited_18 rfl 0 rfl ?_
  refine g_aload_n (pc := 19) d_HS_fineIfVisited_19 rfl 1 rfl ?_
  refine g_getR (pc := 20) (ci := 0) (f := 2) (b := b) rfl r_x_2 d_HS_fineIfVisited_20 fl_HS_50 (by decide) k_x ?_
  refine g_bgI (pc := 23) (f := 9) rfl d_HS_fineIfVisited_23 fl_HS_177 hB ?_
  refine g_cV1 (pc := 26) (ci := 5) (As := [.int _]) d_HS_fineIfVisited_26 rfl mv_SH_isStampedOn st_HS_fineIfVisited_233 rfl rfl (by decide) rfl rfl (Nat.le_of_ble_eq_true rfl) (hB.sk (by first | assumption | omega | decide)) (cb_isStampedOn hB (by first | assumption | omega | decide)) ?_
  refine g_cV1 (pc := 29) (ci := 4) (As := [.int _, .int _]) d_HS_fineIfVisited_29 rfl mv_BU_fineFor st_HS_fineIfVisited_254 rfl rfl (by decide) rfl rfl (Nat.le_of_ble_eq_true rfl) hB.1 (cb_fineFor hB) ?_
  refine g_iret (pc := 32) d_HS_fineIfVisited_32 rfl ?_
  exact ⟨rfl, rfl⟩
theorem d_HS_ounces_0 : decode (mC m_HS_ounces) 0 = .ok (.aload_n 0, 1) := by decide +kernel
theorem d_HS_ounces_1 : decode (mC m_HS_ounces) 1 = .ok (.getfield 50, 3) := by decide +kernel
theorem d_HS_ounces_4 : decode (mC m_HS_ounces) 4 = .ok (.aload_n 0, 1) := by decide +kernel
theorem d_HS_ounces_5 : decode (mC m_HS_ounces) 5 = .ok (.getfield 50, 3) := by decide +kernel
theorem d_HS_ounces_8 : decode (mC m_HS_ounces) 8 = .ok (.aload_n 0, 1) := by decide +kernel
theorem d_HS_ounces_9 : decode (mC m_HS_ounces) 9 = .ok (.iload_n 1, 1) := by decide +kernel
theorem d_HS_ounces_10 : decode (mC m_HS_ounces) 10 = .ok (.invokevirtual 119, 3) := by decide +kernel
theorem d_HS_ounces_13 : decode (mC m_HS_ounces) 13 = .ok (.invokevirtual 220, 3) := by decide +kernel
theorem d_HS_ounces_16 : decode (mC m_HS_ounces) 16 = .ok (.invokevirtual 283, 3) := by decide +kernel
theorem d_HS_ounces_19 : decode (mC m_HS_ounces) 19 = .ok (.ireturn, 1) := by decide +kernel
set_option maxRecDepth 20000 in
theorem cs_HS_ounces {E : En} {h : Hp} {x b nw sc ni U : Nat} {B : Bu} {i : Nat} (k_x : hK h x = 1) (r_x_2 : hR h x 2 = some b) (hB : BuOk h b) (hG : Gd B nw sc ni U) (hi : i < sc) : CR E m_HS_ounces [.ref x, .int (nI i)] (wB h b B) (some (.int (M_ounces (M_tot B.1 B.2.1 (B.2.2 i) nw)))) (wB h b B) := by
  refine ct_of rfl (by decide +kernel) (Nat.le_of_ble_eq_true rfl) ?_
  show G E m_HS_ounces 0 [(0, .ref x), (1, .int (nI i))] [] (wB h b B) 0 0 _ noX
  obtain ⟨hw, hn, hs, hm, h0, hni, n3, ⟨sd, hsd, hsx⟩, hop⟩ := id hG.1
  refine g_aload_n (pc := 0) d_HS_ounces_0 rfl 0 rfl ?_
  refine g_getR (pc := 1) (ci := 0) (f := 2) (b := b) rfl r_x_2 d_HS_ounces_1 fl_HS_50 (by decide) k_x ?_
  refine g_aload_n (pc := 4) d_HS_ounces_4 rfl 0 rfl ?_
  refine g_getR (pc := 5) (ci := 0) (f := 2) (b := b) rfl r_x_2 d_HS_ounces_5 fl_HS_50 (by decide) k_x ?_
  refine g_aload_n (pc := 8) d_HS_ounces_8 rfl 0 rfl ?_
  refine g_iload_n (pc := 9) d_HS_ounces_9 rfl 1 rfl ?_
  refine g_cV1 (pc := 10) (ci := 0) (As := [.int _]) d_HS_ounces_10 rfl mv_HS_existingShop st_HS_ounces_119 rfl rfl (by decide) rfl rfl (Nat.le_of_ble_eq_true rfl) k_x (cs_HS_existingShop k_x r_x_2 hB hG hi) ?_
  refine g_cV1 (pc := 13) (ci := 4) (As := [.ref _]) d_HS_ounces_13 rfl mv_BU_totalFor st_HS_ounces_220 rfl rfl (by decide) rfl rfl (Nat.le_of_ble_eq_true rfl) hB.1 (cb_totalFor hB (by first | assumption | omega | decide) hw hn) ?_
  refine g_cV1 (pc := 16) (ci := 4) (As := [.int _]) d_HS_ounces_16 rfl mv_BU_ouncesIn st_HS_ounces_283 rfl rfl (by decide) rfl rfl (Nat.le_of_ble_eq_true rfl) hB.1 (cb_ouncesIn ) ?_
  refine g_iret (pc := 19) d_HS_ounces_19 rfl ?_
  exact ⟨rfl, rfl⟩
theorem d_HS_whyFail_0 : decode (mC m_HS_whyFail) 0 = .ok (.aload_n 0, 1) := by decide +kernel
theorem d_HS_whyFail_1 : decode (mC m_HS_whyFail) 1 = .ok (.iload_n 1, 1) := by decide +kernel
theorem d_HS_whyFail_2 : decode (mC m_HS_whyFail) 2 = .ok (.invokevirtual 119, 3) := by decide +kernel
theorem d_HS_whyFail_5 : decode (mC m_HS_whyFail) 5 = .ok (.astore_n 2, 1) := by decide +kernel
theorem d_HS_whyFail_6 : decode (mC m_HS_whyFail) 6 = .ok (.aload_n 0, 1) := by decide +kernel
theorem d_HS_whyFail_7 : decode (mC m_HS_whyFail) 7 = .ok (.getfield 50, 3) := by decide +kernel
theorem d_HS_whyFail_10 : decode (mC m_HS_whyFail) 10 = .ok (.aload_n 2, 1) := by decide +kernel
theorem d_HS_whyFail_11 : decode (mC m_HS_whyFail) 11 = .ok (.invokevirtual 223, 3) := by decide +kernel
theorem d_HS_whyFail_14 : decode (mC m_HS_whyFail) 14 = .ok (.ifCond .eq 7, 3) := by decide +kernel
theorem d_HS_whyFail_17 : decode (mC m_HS_whyFail) 17 = .ok (.iconst 0, 1) := by decide +kernel
theorem d_HS_whyFail_18 : decode (mC m_HS_whyFail) 18 = .ok (.goto 4, 3) := by decide +kernel
theorem d_HS_whyFail_21 : decode (mC m_HS_whyFail) 21 = .ok (.iconst 1, 1) := by decide +kernel
theorem d_HS_whyFail_22 : decode (mC m_HS_whyFail) 22 = .ok (.istore_n 3, 1) := by decide +kernel
theorem d_HS_whyFail_23 : decode (mC m_HS_whyFail) 23 = .ok (.aload_n 2, 1) := by decide +kernel
theorem d_HS_whyFail_24 : decode (mC m_HS_whyFail) 24 = .ok (.aload_n 0, 1) := by decide +kernel
theorem d_HS_whyFail_25 : decode (mC m_HS_whyFail) 25 = .ok (.getfield 50, 3) := by decide +kernel
theorem d_HS_whyFail_28 : decode (mC m_HS_whyFail) 28 = .ok (.getfield 177, 3) := by decide +kernel
theorem d_HS_whyFail_31 : decode (mC m_HS_whyFail) 31 = .ok (.invokevirtual 233, 3) := by decide +kernel
theorem d_HS_whyFail_34 : decode (mC m_HS_whyFail) 34 = .ok (.ifCond .eq 7, 3) := by decide +kernel
theorem d_HS_whyFail_37 : decode (mC m_HS_whyFail) 37 = .ok (.iconst 0, 1) := by decide +kernel
theorem d_HS_whyFail_38 : decode (mC m_HS_whyFail) 38 = .ok (.goto 4, 3) := by decide +kernel
theorem d_HS_whyFail_41 : decode (mC m_HS_whyFail) 41 = .ok (.iconst 2, 1) := by decide +kernel
theorem d_HS_whyFail_42 : decode (mC m_HS_whyFail) 42 = .ok (.istore 4, 2) := by decide +kernel
theorem d_HS_whyFail_44 : decode (mC m_HS_whyFail) 44 = .ok (.iload_n 3, 1) := by decide +kernel
theorem d_HS_whyFail_45 : decode (mC m_HS_whyFail) 45 = .ok (.iload 4, 2) := by decide +kernel
theorem d_HS_whyFail_47 : decode (mC m_HS_whyFail) 47 = .ok (.iadd, 1) := by decide +kernel
theorem d_HS_whyFail_48 : decode (mC m_HS_whyFail) 48 = .ok (.ireturn, 1) := by decide +kernel
set_option maxRecDepth 20000 in
theorem cs_HS_whyFail {E : En} {h : Hp} {x b nw sc ni U : Nat} {B : Bu} {i : Nat} (k_x : hK h x = 1) (r_x_2 : hR h x 2 = some b) (hB : BuOk h b) (hG : Gd B nw sc ni U) (hi : i < sc) : CR E m_HS_whyFail [.ref x, .int (nI i)] (wB h b B) (some (.int (M_why (M_tot B.1 B.2.1 (B.2.2 i) nw) (M_stamped (B.2.2 i) (B.1 9))))) (wB h b B) := by
  refine ct_of rfl (by decide +kernel) (Nat.le_of_ble_eq_true rfl) ?_
  show G E m_HS_whyFail 0 [(0, .ref x), (1, .int (nI i))] [] (wB h b B) 0 0 _ noX
  obtain ⟨hw, hn, hs, hm, h0, hni, n3, ⟨sd, hsd, hsx⟩, hop⟩ := id hG.1
  refine g_aload_n (pc := 0) d_HS_whyFail_0 rfl 0 rfl ?_
  refine g_iload_n (pc := 1) d_HS_whyFail_1 rfl 1 rfl ?_
  refine g_cV1 (pc := 2) (ci := 0) (As := [.int _]) d_HS_whyFail_2 rfl mv_HS_existingShop st_HS_whyFail_119 rfl rfl (by decide) rfl rfl (Nat.le_of_ble_eq_true rfl) k_x (cs_HS_existingShop k_x r_x_2 hB hG hi) ?_
  refine g_astore_n (pc := 5) (lv' := [(2, .ref (sh h b i)), (0, .ref x), (1, .int (nI i))]) d_HS_whyFail_5 rfl (by decide) rfl ?_
  refine g_aload_n (pc := 6) d_HS_whyFail_6 rfl 1 rfl ?_
  refine g_getR (pc := 7) (ci := 0) (f := 2) (b := b) rfl r_x_2 d_HS_whyFail_7 fl_HS_50 (by decide) k_x ?_
  refine g_aload_n (pc := 10) d_HS_whyFail_10 rfl 0 rfl ?_
  refine g_cV1 (pc := 11) (ci := 4) (As := [.ref _]) d_HS_whyFail_11 rfl mv_BU_hasTrueScale st_HS_whyFail_223 rfl rfl (by decide) rfl rfl (Nat.le_of_ble_eq_true rfl) hB.1 (cb_hasTrueScale hB (by first | assumption | omega | decide) hw hn) ?_
  refine g_if_eq (pc := 14) (tgt := 21) d_HS_whyFail_14 (by decide) (fun c_14 => ?_) (fun c_14 => ?_)
  · skip
    have y1 : ¬ (M_tot B.1 B.2.1 (B.2.2 i) nw) = 0 := of_decide_eq_false (bI_0.mp c_14)
    refine g_iconst (pc := 21) (v := 1) d_HS_whyFail_21 (by decide) ?_
    refine g_istore_n (pc := 22) (lv' := [(3, .int (1)), (2, .ref (sh h b i)), (0, .ref x), (1, .int (nI i))]) d_HS_whyFail_22 rfl (by decide) rfl ?_
    refine g_aload_n (pc := 23) d_HS_whyFail_23 rfl 1 rfl ?_
    refine g_aload_n (pc := 24) d_HS_whyFail_24 rfl 2 rfl ?_
    refine g_getR (pc := 25) (ci := 0) (f := 2) (b := b) rfl r_x_2 d_HS_whyFail_25 fl_HS_50 (by decide) k_x ?_
    refine g_bgI (pc := 28) (f := 9) rfl d_HS_whyFail_28 fl_HS_177 hB ?_
    refine g_cV1 (pc := 31) (ci := 5) (As := [.int _]) d_HS_whyFail_31 rfl mv_SH_isStampedOn st_HS_whyFail_233 rfl rfl (by decide) rfl rfl (Nat.le_of_ble_eq_true rfl) (hB.sk (by first | assumption | omega | decide)) (cb_isStampedOn hB (by first | assumption | omega | decide)) ?_
    refine g_if_eq (pc := 34) (tgt := 41) d_HS_whyFail_34 (by decide) (fun c_34 => ?_) (fun c_34 => ?_)
    · skip
      have y2 : M_stamped (B.2.2 i) (B.1 9) = false := bI_0.mp c_34
      refine g_iconst (pc := 41) (v := 2) d_HS_whyFail_41 (by decide) ?_
      refine g_istore (pc := 42) (lv' := [(4, .int (2)), (3, .int (1)), (2, .ref (sh h b i)), (0, .ref x), (1, .int (nI i))]) d_HS_whyFail_42 (by decide) rfl ?_
      refine g_iload_n (pc := 44) d_HS_whyFail_44 rfl 1 rfl ?_
      refine g_iload (pc := 45) d_HS_whyFail_45 0 rfl ?_
      refine g_iadd (pc := 47) d_HS_whyFail_47 ?_
      refine g_iret (pc := 48) d_HS_whyFail_48 rfl ?_
      refine ⟨?_, rfl⟩
      simp [M_why, y1, y2]
    · skip
      have y2 : M_stamped (B.2.2 i) (B.1 9) = true := bI_n0 c_34
      refine g_iconst (pc := 37) (v := 0) d_HS_whyFail_37 (by decide) ?_
      refine g_goto (pc := 38) (tgt := 42) d_HS_whyFail_38 (by decide) ?_
      refine g_istore (pc := 42) (lv' := [(4, .int (0)), (3, .int (1)), (2, .ref (sh h b i)), (0, .ref x), (1, .int (nI i))]) d_HS_whyFail_42 (by decide) rfl ?_
      refine g_iload_n (pc := 44) d_HS_whyFail_44 rfl 1 rfl ?_
      refine g_iload (pc := 45) d_HS_whyFail_45 0 rfl ?_
      refine g_iadd (pc := 47) d_HS_whyFail_47 ?_
      refine g_iret (pc := 48) d_HS_whyFail_48 rfl ?_
      refine ⟨?_, rfl⟩
      simp [M_why, y1, y2]
  · skip
    have y1 : (M_tot B.1 B.2.1 (B.2.2 i) nw) = 0 := of_decide_eq_true (bI_n0 c_14)
    refine g_iconst (pc := 17) (v := 0) d_HS_whyFail_17 (by decide) ?_
    refine g_goto (pc := 18) (tgt := 22) d_HS_whyFail_18 (by decide) ?_
    refine g_istore_n (pc := 22) (lv' := [(3, .int (0)), (2, .ref (sh h b i)), (0, .ref x), (1, .int (nI i))]) d_HS_whyFail_22 rfl (by decide) rfl ?_
    refine g_aload_n (pc := 23) d_HS_whyFail_23 rfl 1 rfl ?_
    refine g_aload_n (pc := 24) d_HS_whyFail_24 rfl 2 rfl ?_
    refine g_getR (pc := 25) (ci := 0) (f := 2) (b := b) rfl r_x_2 d_HS_whyFail_25 fl_HS_50 (by decide) k_x ?_
    refine g_bgI (pc := 28) (f := 9) rfl d_HS_whyFail_28 fl_HS_177 hB ?_
    refine g_cV1 (pc := 31) (ci := 5) (As := [.int _]) d_HS_whyFail_31 rfl mv_SH_isStampedOn st_HS_whyFail_233 rfl rfl (by decide) rfl rfl (Nat.le_of_ble_eq_true rfl) (hB.sk (by first | assumption | omega | decide)) (cb_isStampedOn hB (by first | assumption | omega | decide)) ?_
    refine g_if_eq (pc := 34) (tgt := 41) d_HS_whyFail_34 (by decide) (fun c_34 => ?_) (fun c_34 => ?_)
    · skip
      have y2 : M_stamped (B.2.2 i) (B.1 9) = false := bI_0.mp c_34
      refine g_iconst (pc := 41) (v := 2) d_HS_whyFail_41 (by decide) ?_
      refine g_istore (pc := 42) (lv' := [(4, .int (2)), (3, .int (0)), (2, .ref (sh h b i)), (0, .ref x), (1, .int (nI i))]) d_HS_whyFail_42 (by decide) rfl ?_
      refine g_iload_n (pc := 44) d_HS_whyFail_44 rfl 1 rfl ?_
      refine g_iload (pc := 45) d_HS_whyFail_45 0 rfl ?_
      refine g_iadd (pc := 47) d_HS_whyFail_47 ?_
      refine g_iret (pc := 48) d_HS_whyFail_48 rfl ?_
      refine ⟨?_, rfl⟩
      simp [M_why, y1, y2]
    · skip
      have y2 : M_stamped (B.2.2 i) (B.1 9) = true := bI_n0 c_34
      refine g_iconst (pc := 37) (v := 0) d_HS_whyFail_37 (by decide) ?_
      refine g_goto (pc := 38) (tgt := 42) d_HS_whyFail_38 (by decide) ?_
      refine g_istore (pc := 42) (lv' := [(4, .int (0)), (3, .int (0)), (2, .ref (sh h b i)), (0, .ref x), (1, .int (nI i))]) d_HS_whyFail_42 (by decide) rfl ?_
      refine g_iload_n (pc := 44) d_HS_whyFail_44 rfl 1 rfl ?_
      refine g_iload (pc := 45) d_HS_whyFail_45 0 rfl ?_
      refine g_iadd (pc := 47) d_HS_whyFail_47 ?_
      refine g_iret (pc := 48) d_HS_whyFail_48 rfl ?_
      refine ⟨?_, rfl⟩
      simp [M_why, y1, y2]
