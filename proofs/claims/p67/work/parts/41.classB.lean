/-! THE CLASS'S OWN METHODS: questions with loops and ranges -/
theorem Q_coin_add (a yv : Int32) (s : Nat → Nat → Int32) : ∀ n, Q_coin (a + yv) s n = Q_coin a s n + yv
  | 0 => rfl
  | n + 1 => by
    rw [Q_coin, Q_coin, Q_coin_add a yv s n]
    generalize Q_coin a s n = z
    generalize s n 14 - s n 0 = w
    rw [Int32.add_assoc, Int32.add_comm yv w, ← Int32.add_assoc]
theorem Q_coin_S (d : Int32) (s : Nat → Nat → Int32) (n : Nat) : Q_coin (P_money s n - d) s n + (s n 15 + s n 14 - s n 0) = Q_coin (P_money s (n + 1) - d) s (n + 1) := by
  have e : P_money s (n + 1) - d = (P_money s n - d) + s n 15 := by
    rw [P_money, Int32.sub_eq_add_neg, Int32.sub_eq_add_neg, Int32.add_assoc, Int32.add_assoc, Int32.add_comm (s n 15)]
  rw [Q_coin, e, Q_coin_add]
  generalize Q_coin (P_money s n - d) s n = z
  generalize s n 15 = a
  generalize s n 14 = b
  generalize s n 0 = c
  rw [Int32.add_assoc, Int32.sub_eq_add_neg, Int32.sub_eq_add_neg, Int32.add_assoc a]
theorem d_HS_bound_0 : decode (mC m_HS_bound) 0 = .ok (.iload_n 1, 1) := by decide +kernel
theorem d_HS_bound_1 : decode (mC m_HS_bound) 1 = .ok (.iconst 1, 1) := by decide +kernel
theorem d_HS_bound_2 : decode (mC m_HS_bound) 2 = .ok (.sipush 5000, 3) := by decide +kernel
theorem d_HS_bound_5 : decode (mC m_HS_bound) 5 = .ok (.invokestatic 70, 3) := by decide +kernel
theorem d_HS_bound_8 : decode (mC m_HS_bound) 8 = .ok (.aload_n 0, 1) := by decide +kernel
theorem d_HS_bound_9 : decode (mC m_HS_bound) 9 = .ok (.getfield 50, 3) := by decide +kernel
theorem d_HS_bound_12 : decode (mC m_HS_bound) 12 = .ok (.iload_n 1, 1) := by decide +kernel
theorem d_HS_bound_13 : decode (mC m_HS_bound) 13 = .ok (.invokevirtual 192, 3) := by decide +kernel
theorem d_HS_bound_16 : decode (mC m_HS_bound) 16 = .ok (.ireturn, 1) := by decide +kernel
set_option maxRecDepth 20000 in
theorem cs_HS_bound {E : En} {h : Hp} {x b nw sc ni U : Nat} {B : Bu} {yv : Int32} (k_x : hK h x = 1) (r_x_2 : hR h x 2 = some b) (hB : BuOk h b) (hG : Gd B nw sc ni U) (hr1 : 1 ≤ yv) (hr2 : yv ≤ 5000) : CR E m_HS_bound [.ref x, .int yv] (wB h b B) (some (.int (M_bound B.1 yv))) (wB h b B) := by
  refine ct_of rfl (by decide +kernel) (Nat.le_of_ble_eq_true rfl) ?_
  show G E m_HS_bound 0 [(0, .ref x), (1, .int yv)] [] (wB h b B) 0 0 _ noX
  obtain ⟨hw, hn, hs, hm, h0, hni, n3, ⟨sd, hsd, hsx⟩, hop⟩ := id hG.1
  refine g_iload_n (pc := 0) d_HS_bound_0 rfl 1 rfl ?_
  refine g_iconst (pc := 1) (v := 1) d_HS_bound_1 (by decide) ?_
  refine g_sipush (pc := 2) (v := 5000) d_HS_bound_2 (by decide) ?_
  refine g_cS0 (pc := 5) (As := [.int _, .int _, .int _]) d_HS_bound_5 rfl ms_HS_requireRange st_HS_bound_70 rfl rfl (Nat.le_of_ble_eq_true rfl) (cs_HS_requireRange hr1 hr2) ?_
  refine g_aload_n (pc := 8) d_HS_bound_8 rfl 0 rfl ?_
  refine g_getR (pc := 9) (ci := 0) (f := 2) (b := b) rfl r_x_2 d_HS_bound_9 fl_HS_50 (by decide) k_x ?_
  refine g_iload_n (pc := 12) d_HS_bound_12 rfl 1 rfl ?_
  refine g_cV1 (pc := 13) (ci := 4) (As := [.int _]) d_HS_bound_13 rfl mv_BU_boundFor st_HS_bound_192 rfl rfl (by decide) rfl rfl (Nat.le_of_ble_eq_true rfl) hB.1 (cb_boundFor hB) ?_
  refine g_iret (pc := 16) d_HS_bound_16 rfl ?_
  exact ⟨rfl, rfl⟩
theorem d_HS_reading_0 : decode (mC m_HS_reading) 0 = .ok (.aload_n 0, 1) := by decide +kernel
theorem d_HS_reading_1 : decode (mC m_HS_reading) 1 = .ok (.iload_n 1, 1) := by decide +kernel
theorem d_HS_reading_2 : decode (mC m_HS_reading) 2 = .ok (.invokevirtual 119, 3) := by decide +kernel
theorem d_HS_reading_5 : decode (mC m_HS_reading) 5 = .ok (.astore_n 3, 1) := by decide +kernel
theorem d_HS_reading_6 : decode (mC m_HS_reading) 6 = .ok (.iload_n 2, 1) := by decide +kernel
theorem d_HS_reading_7 : decode (mC m_HS_reading) 7 = .ok (.iconst 1, 1) := by decide +kernel
theorem d_HS_reading_8 : decode (mC m_HS_reading) 8 = .ok (.sipush 5000, 3) := by decide +kernel
theorem d_HS_reading_11 : decode (mC m_HS_reading) 11 = .ok (.invokestatic 70, 3) := by decide +kernel
theorem d_HS_reading_14 : decode (mC m_HS_reading) 14 = .ok (.iload_n 2, 1) := by decide +kernel
theorem d_HS_reading_15 : decode (mC m_HS_reading) 15 = .ok (.aload_n 3, 1) := by decide +kernel
theorem d_HS_reading_16 : decode (mC m_HS_reading) 16 = .ok (.iload_n 2, 1) := by decide +kernel
theorem d_HS_reading_17 : decode (mC m_HS_reading) 17 = .ok (.invokevirtual 213, 3) := by decide +kernel
theorem d_HS_reading_20 : decode (mC m_HS_reading) 20 = .ok (.iadd, 1) := by decide +kernel
theorem d_HS_reading_21 : decode (mC m_HS_reading) 21 = .ok (.ireturn, 1) := by decide +kernel
set_option maxRecDepth 20000 in
theorem cs_HS_reading {E : En} {h : Hp} {x b nw sc ni U : Nat} {B : Bu} {i : Nat} {yv : Int32} (k_x : hK h x = 1) (r_x_2 : hR h x 2 = some b) (hB : BuOk h b) (hG : Gd B nw sc ni U) (hi : i < sc) (hr1 : 1 ≤ yv) (hr2 : yv ≤ 5000) : CR E m_HS_reading [.ref x, .int (nI i), .int yv] (wB h b B) (some (.int (yv + M_err (B.2.2 i) yv))) (wB h b B) := by
  refine ct_of rfl (by decide +kernel) (Nat.le_of_ble_eq_true rfl) ?_
  show G E m_HS_reading 0 [(0, .ref x), (1, .int (nI i)), (2, .int yv)] [] (wB h b B) 0 0 _ noX
  obtain ⟨hw, hn, hs, hm, h0, hni, n3, ⟨sd, hsd, hsx⟩, hop⟩ := id hG.1
  refine g_aload_n (pc := 0) d_HS_reading_0 rfl 0 rfl ?_
  refine g_iload_n (pc := 1) d_HS_reading_1 rfl 1 rfl ?_
  refine g_cV1 (pc := 2) (ci := 0) (As := [.int _]) d_HS_reading_2 rfl mv_HS_existingShop st_HS_reading_119 rfl rfl (by decide) rfl rfl (Nat.le_of_ble_eq_true rfl) k_x (cs_HS_existingShop k_x r_x_2 hB hG hi) ?_
  refine g_astore_n (pc := 5) (lv' := [(3, .ref (sh h b i)), (0, .ref x), (1, .int (nI i)), (2, .int yv)]) d_HS_reading_5 rfl (by decide) rfl ?_
  refine g_iload_n (pc := 6) d_HS_reading_6 rfl 3 rfl ?_
  refine g_iconst (pc := 7) (v := 1) d_HS_reading_7 (by decide) ?_
  refine g_sipush (pc := 8) (v := 5000) d_HS_reading_8 (by decide) ?_
  refine g_cS0 (pc := 11) (As := [.int _, .int _, .int _]) d_HS_reading_11 rfl ms_HS_requireRange st_HS_reading_70 rfl rfl (Nat.le_of_ble_eq_true rfl) (cs_HS_requireRange hr1 hr2) ?_
  refine g_iload_n (pc := 14) d_HS_reading_14 rfl 3 rfl ?_
  refine g_aload_n (pc := 15) d_HS_reading_15 rfl 0 rfl ?_
  refine g_iload_n (pc := 16) d_HS_reading_16 rfl 3 rfl ?_
  refine g_cV1 (pc := 17) (ci := 5) (As := [.int _]) d_HS_reading_17 rfl mv_SH_errorFor st_HS_reading_213 rfl rfl (by decide) rfl rfl (Nat.le_of_ble_eq_true rfl) (hB.sk (by first | assumption | omega | decide)) (cb_errorFor hB (by first | assumption | omega | decide)) ?_
  refine g_iadd (pc := 20) d_HS_reading_20 ?_
  refine g_iret (pc := 21) d_HS_reading_21 rfl ?_
  exact ⟨rfl, rfl⟩
theorem d_HS_excess_0 : decode (mC m_HS_excess) 0 = .ok (.aload_n 0, 1) := by decide +kernel
theorem d_HS_excess_1 : decode (mC m_HS_excess) 1 = .ok (.iload_n 1, 1) := by decide +kernel
theorem d_HS_excess_2 : decode (mC m_HS_excess) 2 = .ok (.invokevirtual 119, 3) := by decide +kernel
theorem d_HS_excess_5 : decode (mC m_HS_excess) 5 = .ok (.astore_n 3, 1) := by decide +kernel
theorem d_HS_excess_6 : decode (mC m_HS_excess) 6 = .ok (.iload_n 2, 1) := by decide +kernel
theorem d_HS_excess_7 : decode (mC m_HS_excess) 7 = .ok (.iconst 1, 1) := by decide +kernel
theorem d_HS_excess_8 : decode (mC m_HS_excess) 8 = .ok (.sipush 5000, 3) := by decide +kernel
theorem d_HS_excess_11 : decode (mC m_HS_excess) 11 = .ok (.invokestatic 70, 3) := by decide +kernel
theorem d_HS_excess_14 : decode (mC m_HS_excess) 14 = .ok (.aload_n 0, 1) := by decide +kernel
theorem d_HS_excess_15 : decode (mC m_HS_excess) 15 = .ok (.getfield 50, 3) := by decide +kernel
theorem d_HS_excess_18 : decode (mC m_HS_excess) 18 = .ok (.aload_n 3, 1) := by decide +kernel
theorem d_HS_excess_19 : decode (mC m_HS_excess) 19 = .ok (.iload_n 2, 1) := by decide +kernel
theorem d_HS_excess_20 : decode (mC m_HS_excess) 20 = .ok (.invokevirtual 216, 3) := by decide +kernel
theorem d_HS_excess_23 : decode (mC m_HS_excess) 23 = .ok (.ireturn, 1) := by decide +kernel
set_option maxRecDepth 20000 in
theorem cs_HS_excess {E : En} {h : Hp} {x b nw sc ni U : Nat} {B : Bu} {i : Nat} {yv : Int32} (k_x : hK h x = 1) (r_x_2 : hR h x 2 = some b) (hB : BuOk h b) (hG : Gd B nw sc ni U) (hi : i < sc) (hr1 : 1 ≤ yv) (hr2 : yv ≤ 5000) : CR E m_HS_excess [.ref x, .int (nI i), .int yv] (wB h b B) (some (.int (M_exc B.1 (B.2.2 i) yv))) (wB h b B) := by
  refine ct_of rfl (by decide +kernel) (Nat.le_of_ble_eq_true rfl) ?_
  show G E m_HS_excess 0 [(0, .ref x), (1, .int (nI i)), (2, .int yv)] [] (wB h b B) 0 0 _ noX
  obtain ⟨hw, hn, hs, hm, h0, hni, n3, ⟨sd, hsd, hsx⟩, hop⟩ := id hG.1
  refine g_aload_n (pc := 0) d_HS_excess_0 rfl 0 rfl ?_
  refine g_iload_n (pc := 1) d_HS_excess_1 rfl 1 rfl ?_
  refine g_cV1 (pc := 2) (ci := 0) (As := [.int _]) d_HS_excess_2 rfl mv_HS_existingShop st_HS_excess_119 rfl rfl (by decide) rfl rfl (Nat.le_of_ble_eq_true rfl) k_x (cs_HS_existingShop k_x r_x_2 hB hG hi) ?_
  refine g_astore_n (pc := 5) (lv' := [(3, .ref (sh h b i)), (0, .ref x), (1, .int (nI i)), (2, .int yv)]) d_HS_excess_5 rfl (by decide) rfl ?_
  refine g_iload_n (pc := 6) d_HS_excess_6 rfl 3 rfl ?_
  refine g_iconst (pc := 7) (v := 1) d_HS_excess_7 (by decide) ?_
  refine g_sipush (pc := 8) (v := 5000) d_HS_excess_8 (by decide) ?_
  refine g_cS0 (pc := 11) (As := [.int _, .int _, .int _]) d_HS_excess_11 rfl ms_HS_requireRange st_HS_excess_70 rfl rfl (Nat.le_of_ble_eq_true rfl) (cs_HS_requireRange hr1 hr2) ?_
  refine g_aload_n (pc := 14) d_HS_excess_14 rfl 1 rfl ?_
  refine g_getR (pc := 15) (ci := 0) (f := 2) (b := b) rfl r_x_2 d_HS_excess_15 fl_HS_50 (by decide) k_x ?_
  refine g_aload_n (pc := 18) d_HS_excess_18 rfl 0 rfl ?_
  refine g_iload_n (pc := 19) d_HS_excess_19 rfl 3 rfl ?_
  refine g_cV1 (pc := 20) (ci := 4) (As := [.ref _, .int _]) d_HS_excess_20 rfl mv_BU_excessFor st_HS_excess_216 rfl rfl (by decide) rfl rfl (Nat.le_of_ble_eq_true rfl) hB.1 (cb_excessFor hB (by first | assumption | omega | decide)) ?_
  refine g_iret (pc := 23) d_HS_excess_23 rfl ?_
  exact ⟨rfl, rfl⟩
theorem d_HS_testWeight_0 : decode (mC m_HS_testWeight) 0 = .ok (.iload_n 1, 1) := by decide +kernel
theorem d_HS_testWeight_1 : decode (mC m_HS_testWeight) 1 = .ok (.ifCond .lt 14, 3) := by decide +kernel
theorem d_HS_testWeight_4 : decode (mC m_HS_testWeight) 4 = .ok (.iload_n 1, 1) := by decide +kernel
theorem d_HS_testWeight_5 : decode (mC m_HS_testWeight) 5 = .ok (.aload_n 0, 1) := by decide +kernel
theorem d_HS_testWeight_6 : decode (mC m_HS_testWeight) 6 = .ok (.getfield 50, 3) := by decide +kernel
theorem d_HS_testWeight_9 : decode (mC m_HS_testWeight) 9 = .ok (.getfield 180, 3) := by decide +kernel
theorem d_HS_testWeight_12 : decode (mC m_HS_testWeight) 12 = .ok (.if_icmp .lt 13, 3) := by decide +kernel
theorem d_HS_testWeight_25 : decode (mC m_HS_testWeight) 25 = .ok (.aload_n 0, 1) := by decide +kernel
theorem d_HS_testWeight_26 : decode (mC m_HS_testWeight) 26 = .ok (.getfield 50, 3) := by decide +kernel
theorem d_HS_testWeight_29 : decode (mC m_HS_testWeight) 29 = .ok (.getfield 188, 3) := by decide +kernel
theorem d_HS_testWeight_32 : decode (mC m_HS_testWeight) 32 = .ok (.iload_n 1, 1) := by decide +kernel
theorem d_HS_testWeight_33 : decode (mC m_HS_testWeight) 33 = .ok (.iaload, 1) := by decide +kernel
theorem d_HS_testWeight_34 : decode (mC m_HS_testWeight) 34 = .ok (.ireturn, 1) := by decide +kernel
set_option maxRecDepth 20000 in
theorem cs_HS_testWeight {E : En} {h : Hp} {x b nw sc ni U : Nat} {B : Bu} {j : Nat} (k_x : hK h x = 1) (r_x_2 : hR h x 2 = some b) (hB : BuOk h b) (hG : Gd B nw sc ni U) (hj : j < nw) : CR E m_HS_testWeight [.ref x, .int (nI j)] (wB h b B) (some (.int (B.2.1 j))) (wB h b B) := by
  refine ct_of rfl (by decide +kernel) (Nat.le_of_ble_eq_true rfl) ?_
  show G E m_HS_testWeight 0 [(0, .ref x), (1, .int (nI j))] [] (wB h b B) 0 0 _ noX
  obtain ⟨hw, hn, hs, hm, h0, hni, n3, ⟨sd, hsd, hsx⟩, hop⟩ := id hG.1
  refine g_iload_n (pc := 0) d_HS_testWeight_0 rfl 1 rfl ?_
  refine g_if_lt (pc := 1) (tgt := 15) d_HS_testWeight_1 (by decide) (fun c_1 => ?_) (fun c_1 => ?_)
  · exact absurd c_1 (lt0 (by omega))
  · skip
    refine g_iload_n (pc := 4) d_HS_testWeight_4 rfl 1 rfl ?_
    refine g_aload_n (pc := 5) d_HS_testWeight_5 rfl 0 rfl ?_
    refine g_getR (pc := 6) (ci := 0) (f := 2) (b := b) rfl r_x_2 d_HS_testWeight_6 fl_HS_50 (by decide) k_x ?_
    refine g_bgI (pc := 9) (f := 7) rfl d_HS_testWeight_9 fl_HS_180 hB ?_
    refine g_icmp_lt (pc := 12) (tgt := 25) d_HS_testWeight_12 (by decide) (fun c_12 => ?_) (fun c_12 => ?_)
    · skip
      refine g_aload_n (pc := 25) d_HS_testWeight_25 rfl 0 rfl ?_
      refine g_getR (pc := 26) (ci := 0) (f := 2) (b := b) rfl r_x_2 d_HS_testWeight_26 fl_HS_50 (by decide) k_x ?_
      refine g_bgW (pc := 29) d_HS_testWeight_29 fl_HS_188 hB ?_
      refine g_iload_n (pc := 32) d_HS_testWeight_32 rfl 1 rfl ?_
      refine g_bwl (pc := 33) d_HS_testWeight_33 hB (by first | assumption | omega | decide) ?_
      refine g_iret (pc := 34) d_HS_testWeight_34 rfl ?_
      exact ⟨rfl, rfl⟩
    · exact absurd ((nI_ltI (by omega) (by omega)).mpr hj) (by rw [hw] at c_12; exact c_12)
theorem d_HS_shopAtRank_0 : decode (mC m_HS_shopAtRank) 0 = .ok (.iconst 0, 1) := by decide +kernel
theorem d_HS_shopAtRank_1 : decode (mC m_HS_shopAtRank) 1 = .ok (.istore_n 2, 1) := by decide +kernel
theorem d_HS_shopAtRank_2 : decode (mC m_HS_shopAtRank) 2 = .ok (.iload_n 2, 1) := by decide +kernel
theorem d_HS_shopAtRank_3 : decode (mC m_HS_shopAtRank) 3 = .ok (.aload_n 0, 1) := by decide +kernel
theorem d_HS_shopAtRank_4 : decode (mC m_HS_shopAtRank) 4 = .ok (.getfield 50, 3) := by decide +kernel
theorem d_HS_shopAtRank_7 : decode (mC m_HS_shopAtRank) 7 = .ok (.getfield 95, 3) := by decide +kernel
theorem d_HS_shopAtRank_10 : decode (mC m_HS_shopAtRank) 10 = .ok (.if_icmp .ge 23, 3) := by decide +kernel
theorem d_HS_shopAtRank_13 : decode (mC m_HS_shopAtRank) 13 = .ok (.aload_n 0, 1) := by decide +kernel
theorem d_HS_shopAtRank_14 : decode (mC m_HS_shopAtRank) 14 = .ok (.getfield 50, 3) := by decide +kernel
theorem d_HS_shopAtRank_17 : decode (mC m_HS_shopAtRank) 17 = .ok (.iload_n 2, 1) := by decide +kernel
theorem d_HS_shopAtRank_18 : decode (mC m_HS_shopAtRank) 18 = .ok (.invokevirtual 248, 3) := by decide +kernel
theorem d_HS_shopAtRank_21 : decode (mC m_HS_shopAtRank) 21 = .ok (.iload_n 1, 1) := by decide +kernel
theorem d_HS_shopAtRank_22 : decode (mC m_HS_shopAtRank) 22 = .ok (.if_icmp .ne 5, 3) := by decide +kernel
theorem d_HS_shopAtRank_25 : decode (mC m_HS_shopAtRank) 25 = .ok (.iload_n 2, 1) := by decide +kernel
theorem d_HS_shopAtRank_26 : decode (mC m_HS_shopAtRank) 26 = .ok (.ireturn, 1) := by decide +kernel
theorem d_HS_shopAtRank_27 : decode (mC m_HS_shopAtRank) 27 = .ok (.iinc 2 1, 3) := by decide +kernel
theorem d_HS_shopAtRank_30 : decode (mC m_HS_shopAtRank) 30 = .ok (.goto (-28), 3) := by decide +kernel
theorem d_HS_shopAtRank_33 : decode (mC m_HS_shopAtRank) 33 = .ok (.iconst (-1), 1) := by decide +kernel
theorem d_HS_shopAtRank_34 : decode (mC m_HS_shopAtRank) 34 = .ok (.ireturn, 1) := by decide +kernel
theorem d_HS_mostFined_0 : decode (mC m_HS_mostFined) 0 = .ok (.iconst 0, 1) := by decide +kernel
theorem d_HS_mostFined_1 : decode (mC m_HS_mostFined) 1 = .ok (.istore_n 1, 1) := by decide +kernel
theorem d_HS_mostFined_2 : decode (mC m_HS_mostFined) 2 = .ok (.iconst 1, 1) := by decide +kernel
theorem d_HS_mostFined_3 : decode (mC m_HS_mostFined) 3 = .ok (.istore_n 2, 1) := by decide +kernel
theorem d_HS_mostFined_4 : decode (mC m_HS_mostFined) 4 = .ok (.iload_n 2, 1) := by decide +kernel
theorem d_HS_mostFined_5 : decode (mC m_HS_mostFined) 5 = .ok (.aload_n 0, 1) := by decide +kernel
theorem d_HS_mostFined_6 : decode (mC m_HS_mostFined) 6 = .ok (.getfield 50, 3) := by decide +kernel
theorem d_HS_mostFined_9 : decode (mC m_HS_mostFined) 9 = .ok (.getfield 95, 3) := by decide +kernel
theorem d_HS_mostFined_12 : decode (mC m_HS_mostFined) 12 = .ok (.if_icmp .ge 38, 3) := by decide +kernel
theorem d_HS_mostFined_15 : decode (mC m_HS_mostFined) 15 = .ok (.aload_n 0, 1) := by decide +kernel
theorem d_HS_mostFined_16 : decode (mC m_HS_mostFined) 16 = .ok (.getfield 50, 3) := by decide +kernel
theorem d_HS_mostFined_19 : decode (mC m_HS_mostFined) 19 = .ok (.getfield 264, 3) := by decide +kernel
theorem d_HS_mostFined_22 : decode (mC m_HS_mostFined) 22 = .ok (.iload_n 2, 1) := by decide +kernel
theorem d_HS_mostFined_23 : decode (mC m_HS_mostFined) 23 = .ok (.aaload, 1) := by decide +kernel
theorem d_HS_mostFined_24 : decode (mC m_HS_mostFined) 24 = .ok (.getfield 242, 3) := by decide +kernel
theorem d_HS_mostFined_27 : decode (mC m_HS_mostFined) 27 = .ok (.aload_n 0, 1) := by decide +kernel
theorem d_HS_mostFined_28 : decode (mC m_HS_mostFined) 28 = .ok (.getfield 50, 3) := by decide +kernel
theorem d_HS_mostFined_31 : decode (mC m_HS_mostFined) 31 = .ok (.getfield 264, 3) := by decide +kernel
theorem d_HS_mostFined_34 : decode (mC m_HS_mostFined) 34 = .ok (.iload_n 1, 1) := by decide +kernel
theorem d_HS_mostFined_35 : decode (mC m_HS_mostFined) 35 = .ok (.aaload, 1) := by decide +kernel
theorem d_HS_mostFined_36 : decode (mC m_HS_mostFined) 36 = .ok (.getfield 242, 3) := by decide +kernel
theorem d_HS_mostFined_39 : decode (mC m_HS_mostFined) 39 = .ok (.if_icmp .le 5, 3) := by decide +kernel
theorem d_HS_mostFined_42 : decode (mC m_HS_mostFined) 42 = .ok (.iload_n 2, 1) := by decide +kernel
theorem d_HS_mostFined_43 : decode (mC m_HS_mostFined) 43 = .ok (.istore_n 1, 1) := by decide +kernel
theorem d_HS_mostFined_44 : decode (mC m_HS_mostFined) 44 = .ok (.iinc 2 1, 3) := by decide +kernel
theorem d_HS_mostFined_47 : decode (mC m_HS_mostFined) 47 = .ok (.goto (-43), 3) := by decide +kernel
theorem d_HS_mostFined_50 : decode (mC m_HS_mostFined) 50 = .ok (.iload_n 1, 1) := by decide +kernel
theorem d_HS_mostFined_51 : decode (mC m_HS_mostFined) 51 = .ok (.ireturn, 1) := by decide +kernel
theorem d_HS_coinError_0 : decode (mC m_HS_coinError) 0 = .ok (.aload_n 0, 1) := by decide +kernel
theorem d_HS_coinError_1 : decode (mC m_HS_coinError) 1 = .ok (.getfield 50, 3) := by decide +kernel
theorem d_HS_coinError_4 : decode (mC m_HS_coinError) 4 = .ok (.getfield 198, 3) := by decide +kernel
theorem d_HS_coinError_7 : decode (mC m_HS_coinError) 7 = .ok (.ineg, 1) := by decide +kernel
theorem d_HS_coinError_8 : decode (mC m_HS_coinError) 8 = .ok (.istore_n 1, 1) := by decide +kernel
theorem d_HS_coinError_9 : decode (mC m_HS_coinError) 9 = .ok (.iconst 0, 1) := by decide +kernel
theorem d_HS_coinError_10 : decode (mC m_HS_coinError) 10 = .ok (.istore_n 2, 1) := by decide +kernel
theorem d_HS_coinError_11 : decode (mC m_HS_coinError) 11 = .ok (.iload_n 2, 1) := by decide +kernel
theorem d_HS_coinError_12 : decode (mC m_HS_coinError) 12 = .ok (.aload_n 0, 1) := by decide +kernel
theorem d_HS_coinError_13 : decode (mC m_HS_coinError) 13 = .ok (.getfield 50, 3) := by decide +kernel
theorem d_HS_coinError_16 : decode (mC m_HS_coinError) 16 = .ok (.getfield 95, 3) := by decide +kernel
theorem d_HS_coinError_19 : decode (mC m_HS_coinError) 19 = .ok (.if_icmp .ge 36, 3) := by decide +kernel
theorem d_HS_coinError_22 : decode (mC m_HS_coinError) 22 = .ok (.aload_n 0, 1) := by decide +kernel
theorem d_HS_coinError_23 : decode (mC m_HS_coinError) 23 = .ok (.getfield 50, 3) := by decide +kernel
theorem d_HS_coinError_26 : decode (mC m_HS_coinError) 26 = .ok (.getfield 264, 3) := by decide +kernel
theorem d_HS_coinError_29 : decode (mC m_HS_coinError) 29 = .ok (.iload_n 2, 1) := by decide +kernel
theorem d_HS_coinError_30 : decode (mC m_HS_coinError) 30 = .ok (.aaload, 1) := by decide +kernel
theorem d_HS_coinError_31 : decode (mC m_HS_coinError) 31 = .ok (.astore_n 3, 1) := by decide +kernel
theorem d_HS_coinError_32 : decode (mC m_HS_coinError) 32 = .ok (.iload_n 1, 1) := by decide +kernel
theorem d_HS_coinError_33 : decode (mC m_HS_coinError) 33 = .ok (.aload_n 3, 1) := by decide +kernel
theorem d_HS_coinError_34 : decode (mC m_HS_coinError) 34 = .ok (.getfield 286, 3) := by decide +kernel
theorem d_HS_coinError_37 : decode (mC m_HS_coinError) 37 = .ok (.aload_n 3, 1) := by decide +kernel
theorem d_HS_coinError_38 : decode (mC m_HS_coinError) 38 = .ok (.getfield 245, 3) := by decide +kernel
theorem d_HS_coinError_41 : decode (mC m_HS_coinError) 41 = .ok (.iadd, 1) := by decide +kernel
theorem d_HS_coinError_42 : decode (mC m_HS_coinError) 42 = .ok (.aload_n 3, 1) := by decide +kernel
theorem d_HS_coinError_43 : decode (mC m_HS_coinError) 43 = .ok (.getfield 144, 3) := by decide +kernel
theorem d_HS_coinError_46 : decode (mC m_HS_coinError) 46 = .ok (.isub, 1) := by decide +kernel
theorem d_HS_coinError_47 : decode (mC m_HS_coinError) 47 = .ok (.iadd, 1) := by decide +kernel
theorem d_HS_coinError_48 : decode (mC m_HS_coinError) 48 = .ok (.istore_n 1, 1) := by decide +kernel
theorem d_HS_coinError_49 : decode (mC m_HS_coinError) 49 = .ok (.iinc 2 1, 3) := by decide +kernel
theorem d_HS_coinError_52 : decode (mC m_HS_coinError) 52 = .ok (.goto (-41), 3) := by decide +kernel
theorem d_HS_coinError_55 : decode (mC m_HS_coinError) 55 = .ok (.iload_n 1, 1) := by decide +kernel
theorem d_HS_coinError_56 : decode (mC m_HS_coinError) 56 = .ok (.ireturn, 1) := by decide +kernel
theorem d_HS_meanExcess_0 : decode (mC m_HS_meanExcess) 0 = .ok (.iconst 0, 1) := by decide +kernel
theorem d_HS_meanExcess_1 : decode (mC m_HS_meanExcess) 1 = .ok (.istore_n 1, 1) := by decide +kernel
theorem d_HS_meanExcess_2 : decode (mC m_HS_meanExcess) 2 = .ok (.iconst 0, 1) := by decide +kernel
theorem d_HS_meanExcess_3 : decode (mC m_HS_meanExcess) 3 = .ok (.istore_n 2, 1) := by decide +kernel
theorem d_HS_meanExcess_4 : decode (mC m_HS_meanExcess) 4 = .ok (.iload_n 2, 1) := by decide +kernel
theorem d_HS_meanExcess_5 : decode (mC m_HS_meanExcess) 5 = .ok (.aload_n 0, 1) := by decide +kernel
theorem d_HS_meanExcess_6 : decode (mC m_HS_meanExcess) 6 = .ok (.getfield 50, 3) := by decide +kernel
theorem d_HS_meanExcess_9 : decode (mC m_HS_meanExcess) 9 = .ok (.getfield 95, 3) := by decide +kernel
theorem d_HS_meanExcess_12 : decode (mC m_HS_meanExcess) 12 = .ok (.if_icmp .ge 28, 3) := by decide +kernel
theorem d_HS_meanExcess_15 : decode (mC m_HS_meanExcess) 15 = .ok (.iload_n 1, 1) := by decide +kernel
theorem d_HS_meanExcess_16 : decode (mC m_HS_meanExcess) 16 = .ok (.aload_n 0, 1) := by decide +kernel
theorem d_HS_meanExcess_17 : decode (mC m_HS_meanExcess) 17 = .ok (.getfield 50, 3) := by decide +kernel
theorem d_HS_meanExcess_20 : decode (mC m_HS_meanExcess) 20 = .ok (.aload_n 0, 1) := by decide +kernel
theorem d_HS_meanExcess_21 : decode (mC m_HS_meanExcess) 21 = .ok (.getfield 50, 3) := by decide +kernel
theorem d_HS_meanExcess_24 : decode (mC m_HS_meanExcess) 24 = .ok (.getfield 264, 3) := by decide +kernel
theorem d_HS_meanExcess_27 : decode (mC m_HS_meanExcess) 27 = .ok (.iload_n 2, 1) := by decide +kernel
theorem d_HS_meanExcess_28 : decode (mC m_HS_meanExcess) 28 = .ok (.aaload, 1) := by decide +kernel
theorem d_HS_meanExcess_29 : decode (mC m_HS_meanExcess) 29 = .ok (.invokevirtual 220, 3) := by decide +kernel
theorem d_HS_meanExcess_32 : decode (mC m_HS_meanExcess) 32 = .ok (.iadd, 1) := by decide +kernel
theorem d_HS_meanExcess_33 : decode (mC m_HS_meanExcess) 33 = .ok (.istore_n 1, 1) := by decide +kernel
theorem d_HS_meanExcess_34 : decode (mC m_HS_meanExcess) 34 = .ok (.iinc 2 1, 3) := by decide +kernel
theorem d_HS_meanExcess_37 : decode (mC m_HS_meanExcess) 37 = .ok (.goto (-33), 3) := by decide +kernel
theorem d_HS_meanExcess_40 : decode (mC m_HS_meanExcess) 40 = .ok (.aload_n 0, 1) := by decide +kernel
theorem d_HS_meanExcess_41 : decode (mC m_HS_meanExcess) 41 = .ok (.getfield 50, 3) := by decide +kernel
theorem d_HS_meanExcess_44 : decode (mC m_HS_meanExcess) 44 = .ok (.getfield 95, 3) := by decide +kernel
theorem d_HS_meanExcess_47 : decode (mC m_HS_meanExcess) 47 = .ok (.ifCond .le 17, 3) := by decide +kernel
theorem d_HS_meanExcess_50 : decode (mC m_HS_meanExcess) 50 = .ok (.iload_n 1, 1) := by decide +kernel
theorem d_HS_meanExcess_51 : decode (mC m_HS_meanExcess) 51 = .ok (.i2d, 1) := by decide +kernel
theorem d_HS_meanExcess_52 : decode (mC m_HS_meanExcess) 52 = .ok (.aload_n 0, 1) := by decide +kernel
theorem d_HS_meanExcess_53 : decode (mC m_HS_meanExcess) 53 = .ok (.getfield 50, 3) := by decide +kernel
theorem d_HS_meanExcess_56 : decode (mC m_HS_meanExcess) 56 = .ok (.getfield 95, 3) := by decide +kernel
theorem d_HS_meanExcess_59 : decode (mC m_HS_meanExcess) 59 = .ok (.i2d, 1) := by decide +kernel
theorem d_HS_meanExcess_60 : decode (mC m_HS_meanExcess) 60 = .ok (.ddiv, 1) := by decide +kernel
theorem d_HS_meanExcess_61 : decode (mC m_HS_meanExcess) 61 = .ok (.goto 4, 3) := by decide +kernel
theorem d_HS_meanExcess_65 : decode (mC m_HS_meanExcess) 65 = .ok (.dreturn, 1) := by decide +kernel
theorem d_HS_trueShare_0 : decode (mC m_HS_trueShare) 0 = .ok (.iconst 0, 1) := by decide +kernel
theorem d_HS_trueShare_1 : decode (mC m_HS_trueShare) 1 = .ok (.istore_n 1, 1) := by decide +kernel
theorem d_HS_trueShare_2 : decode (mC m_HS_trueShare) 2 = .ok (.iconst 0, 1) := by decide +kernel
theorem d_HS_trueShare_3 : decode (mC m_HS_trueShare) 3 = .ok (.istore_n 2, 1) := by decide +kernel
theorem d_HS_trueShare_4 : decode (mC m_HS_trueShare) 4 = .ok (.iload_n 2, 1) := by decide +kernel
theorem d_HS_trueShare_5 : decode (mC m_HS_trueShare) 5 = .ok (.aload_n 0, 1) := by decide +kernel
theorem d_HS_trueShare_6 : decode (mC m_HS_trueShare) 6 = .ok (.getfield 50, 3) := by decide +kernel
theorem d_HS_trueShare_9 : decode (mC m_HS_trueShare) 9 = .ok (.getfield 95, 3) := by decide +kernel
theorem d_HS_trueShare_12 : decode (mC m_HS_trueShare) 12 = .ok (.if_icmp .ge 31, 3) := by decide +kernel
theorem d_HS_trueShare_15 : decode (mC m_HS_trueShare) 15 = .ok (.aload_n 0, 1) := by decide +kernel
theorem d_HS_trueShare_16 : decode (mC m_HS_trueShare) 16 = .ok (.getfield 50, 3) := by decide +kernel
theorem d_HS_trueShare_19 : decode (mC m_HS_trueShare) 19 = .ok (.aload_n 0, 1) := by decide +kernel
theorem d_HS_trueShare_20 : decode (mC m_HS_trueShare) 20 = .ok (.getfield 50, 3) := by decide +kernel
theorem d_HS_trueShare_23 : decode (mC m_HS_trueShare) 23 = .ok (.getfield 264, 3) := by decide +kernel
theorem d_HS_trueShare_26 : decode (mC m_HS_trueShare) 26 = .ok (.iload_n 2, 1) := by decide +kernel
theorem d_HS_trueShare_27 : decode (mC m_HS_trueShare) 27 = .ok (.aaload, 1) := by decide +kernel
theorem d_HS_trueShare_28 : decode (mC m_HS_trueShare) 28 = .ok (.invokevirtual 223, 3) := by decide +kernel
theorem d_HS_trueShare_31 : decode (mC m_HS_trueShare) 31 = .ok (.ifCond .eq 6, 3) := by decide +kernel
theorem d_HS_trueShare_34 : decode (mC m_HS_trueShare) 34 = .ok (.iinc 1 1, 3) := by decide +kernel
theorem d_HS_trueShare_37 : decode (mC m_HS_trueShare) 37 = .ok (.iinc 2 1, 3) := by decide +kernel
theorem d_HS_trueShare_40 : decode (mC m_HS_trueShare) 40 = .ok (.goto (-36), 3) := by decide +kernel
theorem d_HS_trueShare_43 : decode (mC m_HS_trueShare) 43 = .ok (.aload_n 0, 1) := by decide +kernel
theorem d_HS_trueShare_44 : decode (mC m_HS_trueShare) 44 = .ok (.getfield 50, 3) := by decide +kernel
theorem d_HS_trueShare_47 : decode (mC m_HS_trueShare) 47 = .ok (.getfield 95, 3) := by decide +kernel
theorem d_HS_trueShare_50 : decode (mC m_HS_trueShare) 50 = .ok (.ifCond .le 17, 3) := by decide +kernel
theorem d_HS_trueShare_53 : decode (mC m_HS_trueShare) 53 = .ok (.iload_n 1, 1) := by decide +kernel
theorem d_HS_trueShare_54 : decode (mC m_HS_trueShare) 54 = .ok (.i2f, 1) := by decide +kernel
theorem d_HS_trueShare_55 : decode (mC m_HS_trueShare) 55 = .ok (.aload_n 0, 1) := by decide +kernel
theorem d_HS_trueShare_56 : decode (mC m_HS_trueShare) 56 = .ok (.getfield 50, 3) := by decide +kernel
theorem d_HS_trueShare_59 : decode (mC m_HS_trueShare) 59 = .ok (.getfield 95, 3) := by decide +kernel
theorem d_HS_trueShare_62 : decode (mC m_HS_trueShare) 62 = .ok (.i2f, 1) := by decide +kernel
theorem d_HS_trueShare_63 : decode (mC m_HS_trueShare) 63 = .ok (.fdiv, 1) := by decide +kernel
theorem d_HS_trueShare_64 : decode (mC m_HS_trueShare) 64 = .ok (.goto 4, 3) := by decide +kernel
theorem d_HS_trueShare_68 : decode (mC m_HS_trueShare) 68 = .ok (.freturn, 1) := by decide +kernel
theorem lp_HS_shopAtRank {E : En} {h : Hp} {x b nw sc ni U : Nat} {B : Bu} {yv : Int32} (k_x : hK h x = 1) (r_x_2 : hR h x 2 = some b) (hB : BuOk h b) (hG : Gd B nw sc ni U) : ∀ (d k : Nat), k ≤ sc → sc - k < d → G E m_HS_shopAtRank 2 [(2, .int (nI k)), (0, .ref x), (1, .int yv)] [] (wB h b B) 0 0 (fun v1 h1 => v1 = some (.int (Q_rank B.2.2 sc yv (sc - k))) ∧ h1 = wB h b B) noX := by
  obtain ⟨hw, hn, hs, hm, h0, hni, n3, ⟨sd, hsd, hsx⟩, hop⟩ := id hG.1
  intro d
  induction d with
  | zero => intros; omega
  | succ d ih =>
    intro k hk hd
    refine g_iload_n (pc := 2) d_HS_shopAtRank_2 rfl 0 rfl ?_
    refine g_aload_n (pc := 3) d_HS_shopAtRank_3 rfl 1 rfl ?_
    refine g_getR (pc := 4) (ci := 0) (f := 2) (b := b) rfl r_x_2 d_HS_shopAtRank_4 fl_HS_50 (by decide) k_x ?_
    refine g_bgI (pc := 7) (f := 8) rfl d_HS_shopAtRank_7 fl_HS_95 hB ?_
    refine g_icmp_ge (pc := 10) (tgt := 33) d_HS_shopAtRank_10 (by decide) (fun c_10 => ?_) (fun c_10 => ?_)
    · skip
      have e9 : k = sc := by rw [hs] at c_10; have := (nI_leI (by omega) (by omega)).mp c_10; omega
      refine g_iconst (pc := 33) (v := (-1)) d_HS_shopAtRank_33 (by decide) ?_
      refine g_iret (pc := 34) d_HS_shopAtRank_34 rfl ?_
      rw [show sc - k = 0 by omega]
      exact ⟨rfl, rfl⟩
    · skip
      have e9 : k < sc := by rw [hs] at c_10; exact Nat.lt_of_not_le (fun z => c_10 ((nI_leI (by omega) (by omega)).mpr z))
      refine g_aload_n (pc := 13) d_HS_shopAtRank_13 rfl 1 rfl ?_
      refine g_getR (pc := 14) (ci := 0) (f := 2) (b := b) rfl r_x_2 d_HS_shopAtRank_14 fl_HS_50 (by decide) k_x ?_
      refine g_iload_n (pc := 17) d_HS_shopAtRank_17 rfl 0 rfl ?_
      refine g_cV1 (pc := 18) (ci := 4) (As := [.int _]) d_HS_shopAtRank_18 rfl mv_BU_rankOf st_HS_shopAtRank_248 rfl rfl (by decide) rfl rfl (Nat.le_of_ble_eq_true rfl) hB.1 (cb_rankOf hB (by omega) hs hm) ?_
      refine g_iload_n (pc := 21) d_HS_shopAtRank_21 rfl 2 rfl ?_
      refine g_icmp_ne (pc := 22) (tgt := 27) d_HS_shopAtRank_22 (by decide) (fun c_22 => ?_) (fun c_22 => ?_)
      · skip
        obtain ⟨x_1, hx_1⟩ : ∃ y : Int32, y = (nI k) + 1 := ⟨_, rfl⟩
        refine g_iinc (pc := 27) (w := 0) (v := x_1) (lv' := [(2, .int x_1), (0, .ref x), (1, .int yv)]) d_HS_shopAtRank_27 rfl (by rw [hx_1]; rfl) (by decide) rfl ?_
        refine g_goto (pc := 30) (tgt := 2) d_HS_shopAtRank_30 (by decide) ?_
        have e8 : x_1 = nI (k + 1) := by rw [hx_1]; exact nI_1 _
        clear hx_1
        subst e8
        rw [show sc - k = (sc - (k + 1)) + 1 by omega, Q_rank, show sc - (sc - (k + 1) + 1) = k by omega, if_neg c_22]
        exact ih (k + 1) (by omega) (by omega)
      · skip
        refine g_iload_n (pc := 25) d_HS_shopAtRank_25 rfl 0 rfl ?_
        refine g_iret (pc := 26) d_HS_shopAtRank_26 rfl ?_
        rw [show sc - k = (sc - (k + 1)) + 1 by omega, Q_rank, show sc - (sc - (k + 1) + 1) = k by omega, if_pos c_22]
        exact ⟨rfl, rfl⟩
set_option maxRecDepth 20000 in
theorem cs_HS_shopAtRank {E : En} {h : Hp} {x b nw sc ni U : Nat} {B : Bu} {yv : Int32} (k_x : hK h x = 1) (r_x_2 : hR h x 2 = some b) (hB : BuOk h b) (hG : Gd B nw sc ni U) : CR E m_HS_shopAtRank [.ref x, .int yv] (wB h b B) (some (.int (Q_rank B.2.2 sc yv sc))) (wB h b B) := by
  refine ct_of rfl (by decide +kernel) (Nat.le_of_ble_eq_true rfl) ?_
  show G E m_HS_shopAtRank 0 [(0, .ref x), (1, .int yv)] [] (wB h b B) 0 0 _ noX
  obtain ⟨hw, hn, hs, hm, h0, hni, n3, ⟨sd, hsd, hsx⟩, hop⟩ := id hG.1
  refine g_iconst (pc := 0) (v := 0) d_HS_shopAtRank_0 (by decide) ?_
  refine g_nameI (fun x_1 hx_1 => ?_)
  refine g_istore_n (pc := 1) (lv' := [(2, .int x_1), (0, .ref x), (1, .int yv)]) d_HS_shopAtRank_1 rfl (by decide) rfl ?_
  subst hx_1
  exact lp_HS_shopAtRank k_x r_x_2 hB hG (sc + 1) 0 (Nat.zero_le _) (by omega)
theorem lp_HS_mostFined {E : En} {h : Hp} {x b nw sc ni U : Nat} {B : Bu} (k_x : hK h x = 1) (r_x_2 : hR h x 2 = some b) (hB : BuOk h b) (hG : Gd B nw sc ni U) : ∀ (d k t : Nat), (k = 0 ∨ k + 1 ≤ sc) → t = Q_fined B.2.2 k → sc - k < d → G E m_HS_mostFined 4 [(2, .int (nI (k + 1))), (1, .int (nI t)), (0, .ref x)] [] (wB h b B) 0 0 (fun v1 h1 => v1 = some (.int (nI (Q_fined B.2.2 (sc - 1)))) ∧ h1 = wB h b B) noX := by
  obtain ⟨hw, hn, hs, hm, h0, hni, n3, ⟨sd, hsd, hsx⟩, hop⟩ := id hG.1
  intro d
  induction d with
  | zero => intros; omega
  | succ d ih =>
    intro k t hk ht hd
    refine g_iload_n (pc := 4) d_HS_mostFined_4 rfl 0 rfl ?_
    refine g_aload_n (pc := 5) d_HS_mostFined_5 rfl 2 rfl ?_
    refine g_getR (pc := 6) (ci := 0) (f := 2) (b := b) rfl r_x_2 d_HS_mostFined_6 fl_HS_50 (by decide) k_x ?_
    refine g_bgI (pc := 9) (f := 8) rfl d_HS_mostFined_9 fl_HS_95 hB ?_
    refine g_icmp_ge (pc := 12) (tgt := 50) d_HS_mostFined_12 (by decide) (fun c_12 => ?_) (fun c_12 => ?_)
    · skip
      have e9 : sc ≤ k + 1 := by rw [hs] at c_12; exact (nI_leI (by omega) (by omega)).mp c_12
      refine g_iload_n (pc := 50) d_HS_mostFined_50 rfl 1 rfl ?_
      refine g_iret (pc := 51) d_HS_mostFined_51 rfl ?_
      rw [show sc - 1 = k by omega, ← ht]
      exact ⟨rfl, rfl⟩
    · skip
      have e9 : k + 1 < sc := by rw [hs] at c_12; exact Nat.lt_of_not_le (fun z => c_12 ((nI_leI (by omega) (by omega)).mpr z))
      have e7 : t ≤ k := by rw [ht]; exact Q_fined_le B.2.2 k
      refine g_aload_n (pc := 15) d_HS_mostFined_15 rfl 2 rfl ?_
      refine g_getR (pc := 16) (ci := 0) (f := 2) (b := b) rfl r_x_2 d_HS_mostFined_16 fl_HS_50 (by decide) k_x ?_
      refine g_bgS (pc := 19) d_HS_mostFined_19 fl_HS_264 hB ?_
      refine g_iload_n (pc := 22) d_HS_mostFined_22 rfl 0 rfl ?_
      refine g_bsl (pc := 23) d_HS_mostFined_23 hB (by first | assumption | omega | decide) ?_
      refine g_sgI (pc := 24) (f := 13) rfl d_HS_mostFined_24 fl_HS_242 hB (by first | assumption | omega | decide) ?_
      refine g_aload_n (pc := 27) d_HS_mostFined_27 rfl 2 rfl ?_
      refine g_getR (pc := 28) (ci := 0) (f := 2) (b := b) rfl r_x_2 d_HS_mostFined_28 fl_HS_50 (by decide) k_x ?_
      refine g_bgS (pc := 31) d_HS_mostFined_31 fl_HS_264 hB ?_
      refine g_iload_n (pc := 34) d_HS_mostFined_34 rfl 1 rfl ?_
      refine g_bsl (pc := 35) d_HS_mostFined_35 hB (by first | assumption | omega | decide) ?_
      refine g_sgI (pc := 36) (f := 13) rfl d_HS_mostFined_36 fl_HS_242 hB (by first | assumption | omega | decide) ?_
      refine g_icmp_le (pc := 39) (tgt := 44) d_HS_mostFined_39 (by decide) (fun c_39 => ?_) (fun c_39 => ?_)
      · skip
        obtain ⟨x_1, hx_1⟩ : ∃ y : Int32, y = (nI (k + 1)) + 1 := ⟨_, rfl⟩
        refine g_iinc (pc := 44) (w := 0) (v := x_1) (lv' := [(2, .int x_1), (1, .int (nI t)), (0, .ref x)]) d_HS_mostFined_44 rfl (by rw [hx_1]; rfl) (by decide) rfl ?_
        refine g_goto (pc := 47) (tgt := 4) d_HS_mostFined_47 (by decide) ?_
        have e8 : x_1 = nI (k + 1 + 1) := by rw [hx_1]; exact nI_1 _
        clear hx_1
        subst e8
        refine g_perm [0, 1, 2] rfl ?_
        refine ih (k + 1) _ (by omega) ?_ (by omega)
        rw [Q_fined, ← ht]
        first | (rw [if_pos c_39]; done) | (rw [if_neg c_39]; done)
      · skip
        refine g_iload_n (pc := 42) d_HS_mostFined_42 rfl 0 rfl ?_
        refine g_istore_n (pc := 43) (lv' := [(1, .int (nI (k + 1))), (2, .int (nI (k + 1))), (0, .ref x)]) d_HS_mostFined_43 rfl (by decide) rfl ?_
        obtain ⟨x_2, hx_2⟩ : ∃ y : Int32, y = (nI (k + 1)) + 1 := ⟨_, rfl⟩
        refine g_iinc (pc := 44) (w := 1) (v := x_2) (lv' := [(2, .int x_2), (1, .int (nI (k + 1))), (0, .ref x)]) d_HS_mostFined_44 rfl (by rw [hx_2]; rfl) (by decide) rfl ?_
        refine g_goto (pc := 47) (tgt := 4) d_HS_mostFined_47 (by decide) ?_
        have e8 : x_2 = nI (k + 1 + 1) := by rw [hx_2]; exact nI_1 _
        clear hx_2
        subst e8
        refine g_perm [0, 1, 2] rfl ?_
        refine ih (k + 1) _ (by omega) ?_ (by omega)
        rw [Q_fined, ← ht]
        first | (rw [if_pos c_39]; done) | (rw [if_neg c_39]; done)
set_option maxRecDepth 20000 in
theorem cs_HS_mostFined {E : En} {h : Hp} {x b nw sc ni U : Nat} {B : Bu} (k_x : hK h x = 1) (r_x_2 : hR h x 2 = some b) (hB : BuOk h b) (hG : Gd B nw sc ni U) : CR E m_HS_mostFined [.ref x] (wB h b B) (some (.int (nI (Q_fined B.2.2 (sc - 1))))) (wB h b B) := by
  refine ct_of rfl (by decide +kernel) (Nat.le_of_ble_eq_true rfl) ?_
  show G E m_HS_mostFined 0 [(0, .ref x)] [] (wB h b B) 0 0 _ noX
  obtain ⟨hw, hn, hs, hm, h0, hni, n3, ⟨sd, hsd, hsx⟩, hop⟩ := id hG.1
  refine g_iconst (pc := 0) (v := 0) d_HS_mostFined_0 (by decide) ?_
  refine g_nameI (fun x_1 hx_1 => ?_)
  refine g_istore_n (pc := 1) (lv' := [(1, .int x_1), (0, .ref x)]) d_HS_mostFined_1 rfl (by decide) rfl ?_
  refine g_iconst (pc := 2) (v := 1) d_HS_mostFined_2 (by decide) ?_
  refine g_nameI (fun x_2 hx_2 => ?_)
  refine g_istore_n (pc := 3) (lv' := [(2, .int x_2), (1, .int x_1), (0, .ref x)]) d_HS_mostFined_3 rfl (by decide) rfl ?_
  subst hx_1
  subst hx_2
  exact lp_HS_mostFined k_x r_x_2 hB hG (sc + 1) 0 0 (Or.inl rfl) rfl (by omega)
theorem lp_HS_coinError {E : En} {h : Hp} {x b nw sc ni U : Nat} {B : Bu} (k_x : hK h x = 1) (r_x_2 : hR h x 2 = some b) (hB : BuOk h b) (hG : Gd B nw sc ni U) : ∀ (d k : Nat), k ≤ sc → sc - k < d → G E m_HS_coinError 11 [(2, .int (nI k)), (1, .int (Q_coin (P_money B.2.2 k - B.1 10) B.2.2 k)), (0, .ref x)] [] (wB h b B) 0 0 (fun v1 h1 => v1 = some (.int (Q_coin (P_money B.2.2 sc - B.1 10) B.2.2 sc)) ∧ h1 = wB h b B) noX := by
  obtain ⟨hw, hn, hs, hm, h0, hni, n3, ⟨sd, hsd, hsx⟩, hop⟩ := id hG.1
  intro d
  induction d with
  | zero => intros; omega
  | succ d ih =>
    intro k hk hd
    refine g_iload_n (pc := 11) d_HS_coinError_11 rfl 0 rfl ?_
    refine g_aload_n (pc := 12) d_HS_coinError_12 rfl 2 rfl ?_
    refine g_getR (pc := 13) (ci := 0) (f := 2) (b := b) rfl r_x_2 d_HS_coinError_13 fl_HS_50 (by decide) k_x ?_
    refine g_bgI (pc := 16) (f := 8) rfl d_HS_coinError_16 fl_HS_95 hB ?_
    refine g_icmp_ge (pc := 19) (tgt := 55) d_HS_coinError_19 (by decide) (fun c_19 => ?_) (fun c_19 => ?_)
    · skip
      have e9 : k = sc := by rw [hs] at c_19; have := (nI_leI (by omega) (by omega)).mp c_19; omega
      refine g_iload_n (pc := 55) d_HS_coinError_55 rfl 1 rfl ?_
      refine g_iret (pc := 56) d_HS_coinError_56 rfl ?_
      rw [e9]
      exact ⟨rfl, rfl⟩
    · skip
      have e9 : k < sc := by rw [hs] at c_19; exact Nat.lt_of_not_le (fun z => c_19 ((nI_leI (by omega) (by omega)).mpr z))
      refine g_aload_n (pc := 22) d_HS_coinError_22 rfl 2 rfl ?_
      refine g_getR (pc := 23) (ci := 0) (f := 2) (b := b) rfl r_x_2 d_HS_coinError_23 fl_HS_50 (by decide) k_x ?_
      refine g_bgS (pc := 26) d_HS_coinError_26 fl_HS_264 hB ?_
      refine g_iload_n (pc := 29) d_HS_coinError_29 rfl 0 rfl ?_
      refine g_bsl (pc := 30) d_HS_coinError_30 hB (by first | assumption | omega | decide) ?_
      refine g_astore_n (pc := 31) (lv' := [(3, .ref (sh h b k)), (2, .int (nI k)), (1, .int (Q_coin (P_money B.2.2 k - B.1 10) B.2.2 k)), (0, .ref x)]) d_HS_coinError_31 rfl (by decide) rfl ?_
      refine g_iload_n (pc := 32) d_HS_coinError_32 rfl 2 rfl ?_
      refine g_aload_n (pc := 33) d_HS_coinError_33 rfl 0 rfl ?_
      refine g_sgI (pc := 34) (f := 15) rfl d_HS_coinError_34 fl_HS_286 hB (by first | assumption | omega | decide) ?_
      refine g_aload_n (pc := 37) d_HS_coinError_37 rfl 0 rfl ?_
      refine g_sgI (pc := 38) (f := 14) rfl d_HS_coinError_38 fl_HS_245 hB (by first | assumption | omega | decide) ?_
      refine g_iadd (pc := 41) d_HS_coinError_41 ?_
      refine g_aload_n (pc := 42) d_HS_coinError_42 rfl 0 rfl ?_
      refine g_sgI (pc := 43) (f := 0) rfl d_HS_coinError_43 fl_HS_144 hB (by first | assumption | omega | decide) ?_
      refine g_isub (pc := 46) d_HS_coinError_46 ?_
      refine g_iadd (pc := 47) d_HS_coinError_47 ?_
      refine g_top (Q_coin_S (B.1 10) B.2.2 k) ?_
      refine g_istore_n (pc := 48) (lv' := [(1, .int (Q_coin (P_money B.2.2 (k + 1) - B.1 10) B.2.2 (k + 1))), (3, .ref (sh h b k)), (2, .int (nI k)), (0, .ref x)]) d_HS_coinError_48 rfl (by decide) rfl ?_
      obtain ⟨x_1, hx_1⟩ : ∃ y : Int32, y = (nI k) + 1 := ⟨_, rfl⟩
      refine g_iinc (pc := 49) (w := 2) (v := x_1) (lv' := [(2, .int x_1), (1, .int (Q_coin (P_money B.2.2 (k + 1) - B.1 10) B.2.2 (k + 1))), (3, .ref (sh h b k)), (0, .ref x)]) d_HS_coinError_49 rfl (by rw [hx_1]; rfl) (by decide) rfl ?_
      refine g_goto (pc := 52) (tgt := 11) d_HS_coinError_52 (by decide) ?_
      have e8 : x_1 = nI (k + 1) := by rw [hx_1]; exact nI_1 _
      clear hx_1
      subst e8
      refine g_perm [0, 1, 3] rfl ?_
      exact ih (k + 1) (by omega) (by omega)
set_option maxRecDepth 20000 in
theorem cs_HS_coinError {E : En} {h : Hp} {x b nw sc ni U : Nat} {B : Bu} (k_x : hK h x = 1) (r_x_2 : hR h x 2 = some b) (hB : BuOk h b) (hG : Gd B nw sc ni U) : CR E m_HS_coinError [.ref x] (wB h b B) (some (.int (Q_coin (P_money B.2.2 sc - B.1 10) B.2.2 sc))) (wB h b B) := by
  refine ct_of rfl (by decide +kernel) (Nat.le_of_ble_eq_true rfl) ?_
  show G E m_HS_coinError 0 [(0, .ref x)] [] (wB h b B) 0 0 _ noX
  obtain ⟨hw, hn, hs, hm, h0, hni, n3, ⟨sd, hsd, hsx⟩, hop⟩ := id hG.1
  refine g_aload_n (pc := 0) d_HS_coinError_0 rfl 0 rfl ?_
  refine g_getR (pc := 1) (ci := 0) (f := 2) (b := b) rfl r_x_2 d_HS_coinError_1 fl_HS_50 (by decide) k_x ?_
  refine g_bgI (pc := 4) (f := 10) rfl d_HS_coinError_4 fl_HS_198 hB ?_
  refine g_ineg (pc := 7) d_HS_coinError_7 ?_
  refine g_istore_n (pc := 8) (lv' := [(1, .int (-B.1 10)), (0, .ref x)]) d_HS_coinError_8 rfl (by decide) rfl ?_
  refine g_iconst (pc := 9) (v := 0) d_HS_coinError_9 (by decide) ?_
  refine g_nameI (fun x_1 hx_1 => ?_)
  refine g_istore_n (pc := 10) (lv' := [(2, .int x_1), (1, .int (-B.1 10)), (0, .ref x)]) d_HS_coinError_10 rfl (by decide) rfl ?_
  subst hx_1
  have k := lp_HS_coinError (E := E) k_x r_x_2 hB hG (sc + 1) 0 (Nat.zero_le _) (by omega)
  rw [show Q_coin (P_money B.2.2 0 - B.1 10) B.2.2 0 = -B.1 10 from Int32.zero_sub _] at k
  exact k
theorem lp_HS_meanExcess {E : En} {h : Hp} {x b nw sc ni U : Nat} {B : Bu} (k_x : hK h x = 1) (r_x_2 : hR h x 2 = some b) (hB : BuOk h b) (hG : Gd B nw sc ni U) : ∀ (d k : Nat), k ≤ sc → sc - k < d → G E m_HS_meanExcess 4 [(2, .int (nI k)), (1, .int (Q_sum B.1 B.2.1 B.2.2 nw k)), (0, .ref x)] [] (wB h b B) 0 0 (fun v1 h1 => v1 = some (.double (FP.ddiv (FP.i2d (Q_sum B.1 B.2.1 B.2.2 nw sc)) (FP.i2d (nI sc)))) ∧ h1 = wB h b B) noX := by
  obtain ⟨hw, hn, hs, hm, h0, hni, n3, ⟨sd, hsd, hsx⟩, hop⟩ := id hG.1
  intro d
  induction d with
  | zero => intros; omega
  | succ d ih =>
    intro k hk hd
    refine g_iload_n (pc := 4) d_HS_meanExcess_4 rfl 0 rfl ?_
    refine g_aload_n (pc := 5) d_HS_meanExcess_5 rfl 2 rfl ?_
    refine g_getR (pc := 6) (ci := 0) (f := 2) (b := b) rfl r_x_2 d_HS_meanExcess_6 fl_HS_50 (by decide) k_x ?_
    refine g_bgI (pc := 9) (f := 8) rfl d_HS_meanExcess_9 fl_HS_95 hB ?_
    refine g_icmp_ge (pc := 12) (tgt := 40) d_HS_meanExcess_12 (by decide) (fun c_12 => ?_) (fun c_12 => ?_)
    · skip
      have e9 : k = sc := by rw [hs] at c_12; have := (nI_leI (by omega) (by omega)).mp c_12; omega
      refine g_aload_n (pc := 40) d_HS_meanExcess_40 rfl 2 rfl ?_
      refine g_getR (pc := 41) (ci := 0) (f := 2) (b := b) rfl r_x_2 d_HS_meanExcess_41 fl_HS_50 (by decide) k_x ?_
      refine g_bgI (pc := 44) (f := 8) rfl d_HS_meanExcess_44 fl_HS_95 hB ?_
      refine g_if_le (pc := 47) (tgt := 64) d_HS_meanExcess_47 (by decide) (fun c_47 => ?_) (fun c_47 => ?_)
      · exact absurd (show (0 : Int32) < B.1 8 by rw [hs]; exact (nI_ltI (a := 0) (b := sc) (by omega) (by omega)).mpr h0) (Int32.not_lt.mpr c_47)
      · skip
        refine g_iload_n (pc := 50) d_HS_meanExcess_50 rfl 1 rfl ?_
        refine g_i2d (pc := 51) d_HS_meanExcess_51 ?_
        refine g_aload_n (pc := 52) d_HS_meanExcess_52 rfl 2 rfl ?_
        refine g_getR (pc := 53) (ci := 0) (f := 2) (b := b) rfl r_x_2 d_HS_meanExcess_53 fl_HS_50 (by decide) k_x ?_
        refine g_bgI (pc := 56) (f := 8) rfl d_HS_meanExcess_56 fl_HS_95 hB ?_
        refine g_i2d (pc := 59) d_HS_meanExcess_59 ?_
        refine g_ddiv (pc := 60) d_HS_meanExcess_60 (by rw [hs]; exact fd_n64 _ (nI_ne0 h0 (by omega))) ?_
        refine g_goto (pc := 61) (tgt := 65) d_HS_meanExcess_61 (by decide) ?_
        refine g_dret (pc := 65) d_HS_meanExcess_65 rfl ?_
        rw [e9, hs]
        exact ⟨rfl, rfl⟩
    · skip
      have e9 : k < sc := by rw [hs] at c_12; exact Nat.lt_of_not_le (fun z => c_12 ((nI_leI (by omega) (by omega)).mpr z))
      refine g_iload_n (pc := 15) d_HS_meanExcess_15 rfl 1 rfl ?_
      refine g_aload_n (pc := 16) d_HS_meanExcess_16 rfl 2 rfl ?_
      refine g_getR (pc := 17) (ci := 0) (f := 2) (b := b) rfl r_x_2 d_HS_meanExcess_17 fl_HS_50 (by decide) k_x ?_
      refine g_aload_n (pc := 20) d_HS_meanExcess_20 rfl 2 rfl ?_
      refine g_getR (pc := 21) (ci := 0) (f := 2) (b := b) rfl r_x_2 d_HS_meanExcess_21 fl_HS_50 (by decide) k_x ?_
      refine g_bgS (pc := 24) d_HS_meanExcess_24 fl_HS_264 hB ?_
      refine g_iload_n (pc := 27) d_HS_meanExcess_27 rfl 0 rfl ?_
      refine g_bsl (pc := 28) d_HS_meanExcess_28 hB (by first | assumption | omega | decide) ?_
      refine g_cV1 (pc := 29) (ci := 4) (As := [.ref _]) d_HS_meanExcess_29 rfl mv_BU_totalFor st_HS_meanExcess_220 rfl rfl (by decide) rfl rfl (Nat.le_of_ble_eq_true rfl) hB.1 (cb_totalFor hB (by first | assumption | omega | decide) hw hn) ?_
      refine g_iadd (pc := 32) d_HS_meanExcess_32 ?_
      refine g_istore_n (pc := 33) (lv' := [(1, .int (Q_sum B.1 B.2.1 B.2.2 nw (k + 1))), (2, .int (nI k)), (0, .ref x)]) d_HS_meanExcess_33 rfl (by decide) rfl ?_
      obtain ⟨x_1, hx_1⟩ : ∃ y : Int32, y = (nI k) + 1 := ⟨_, rfl⟩
      refine g_iinc (pc := 34) (w := 1) (v := x_1) (lv' := [(2, .int x_1), (1, .int (Q_sum B.1 B.2.1 B.2.2 nw (k + 1))), (0, .ref x)]) d_HS_meanExcess_34 rfl (by rw [hx_1]; rfl) (by decide) rfl ?_
      refine g_goto (pc := 37) (tgt := 4) d_HS_meanExcess_37 (by decide) ?_
      have e8 : x_1 = nI (k + 1) := by rw [hx_1]; exact nI_1 _
      clear hx_1
      subst e8
      refine g_perm [0, 1, 2] rfl ?_
      exact ih (k + 1) (by omega) (by omega)
set_option maxRecDepth 20000 in
theorem cs_HS_meanExcess {E : En} {h : Hp} {x b nw sc ni U : Nat} {B : Bu} (k_x : hK h x = 1) (r_x_2 : hR h x 2 = some b) (hB : BuOk h b) (hG : Gd B nw sc ni U) : CR E m_HS_meanExcess [.ref x] (wB h b B) (some (.double (FP.ddiv (FP.i2d (Q_sum B.1 B.2.1 B.2.2 nw sc)) (FP.i2d (nI sc))))) (wB h b B) := by
  refine ct_of rfl (by decide +kernel) (Nat.le_of_ble_eq_true rfl) ?_
  show G E m_HS_meanExcess 0 [(0, .ref x)] [] (wB h b B) 0 0 _ noX
  obtain ⟨hw, hn, hs, hm, h0, hni, n3, ⟨sd, hsd, hsx⟩, hop⟩ := id hG.1
  refine g_iconst (pc := 0) (v := 0) d_HS_meanExcess_0 (by decide) ?_
  refine g_nameI (fun x_1 hx_1 => ?_)
  refine g_istore_n (pc := 1) (lv' := [(1, .int x_1), (0, .ref x)]) d_HS_meanExcess_1 rfl (by decide) rfl ?_
  refine g_iconst (pc := 2) (v := 0) d_HS_meanExcess_2 (by decide) ?_
  refine g_nameI (fun x_2 hx_2 => ?_)
  refine g_istore_n (pc := 3) (lv' := [(2, .int x_2), (1, .int x_1), (0, .ref x)]) d_HS_meanExcess_3 rfl (by decide) rfl ?_
  subst hx_1
  subst hx_2
  exact lp_HS_meanExcess k_x r_x_2 hB hG (sc + 1) 0 (Nat.zero_le _) (by omega)
theorem lp_HS_trueShare {E : En} {h : Hp} {x b nw sc ni U : Nat} {B : Bu} (k_x : hK h x = 1) (r_x_2 : hR h x 2 = some b) (hB : BuOk h b) (hG : Gd B nw sc ni U) : ∀ (d k : Nat), k ≤ sc → sc - k < d → G E m_HS_trueShare 4 [(2, .int (nI k)), (1, .int (nI (Q_true B.1 B.2.1 B.2.2 nw k))), (0, .ref x)] [] (wB h b B) 0 0 (fun v1 h1 => v1 = some (.float (FP.fdiv (FP.i2f (nI (Q_true B.1 B.2.1 B.2.2 nw sc))) (FP.i2f (nI sc)))) ∧ h1 = wB h b B) noX := by
  obtain ⟨hw, hn, hs, hm, h0, hni, n3, ⟨sd, hsd, hsx⟩, hop⟩ := id hG.1
  intro d
  induction d with
  | zero => intros; omega
  | succ d ih =>
    intro k hk hd
    refine g_iload_n (pc := 4) d_HS_trueShare_4 rfl 0 rfl ?_
    refine g_aload_n (pc := 5) d_HS_trueShare_5 rfl 2 rfl ?_
    refine g_getR (pc := 6) (ci := 0) (f := 2) (b := b) rfl r_x_2 d_HS_trueShare_6 fl_HS_50 (by decide) k_x ?_
    refine g_bgI (pc := 9) (f := 8) rfl d_HS_trueShare_9 fl_HS_95 hB ?_
    refine g_icmp_ge (pc := 12) (tgt := 43) d_HS_trueShare_12 (by decide) (fun c_12 => ?_) (fun c_12 => ?_)
    · skip
      have e9 : k = sc := by rw [hs] at c_12; have := (nI_leI (by omega) (by omega)).mp c_12; omega
      refine g_aload_n (pc := 43) d_HS_trueShare_43 rfl 2 rfl ?_
      refine g_getR (pc := 44) (ci := 0) (f := 2) (b := b) rfl r_x_2 d_HS_trueShare_44 fl_HS_50 (by decide) k_x ?_
      refine g_bgI (pc := 47) (f := 8) rfl d_HS_trueShare_47 fl_HS_95 hB ?_
      refine g_if_le (pc := 50) (tgt := 67) d_HS_trueShare_50 (by decide) (fun c_50 => ?_) (fun c_50 => ?_)
      · exact absurd (show (0 : Int32) < B.1 8 by rw [hs]; exact (nI_ltI (a := 0) (b := sc) (by omega) (by omega)).mpr h0) (Int32.not_lt.mpr c_50)
      · skip
        refine g_iload_n (pc := 53) d_HS_trueShare_53 rfl 1 rfl ?_
        refine g_i2f (pc := 54) d_HS_trueShare_54 ?_
        refine g_aload_n (pc := 55) d_HS_trueShare_55 rfl 2 rfl ?_
        refine g_getR (pc := 56) (ci := 0) (f := 2) (b := b) rfl r_x_2 d_HS_trueShare_56 fl_HS_50 (by decide) k_x ?_
        refine g_bgI (pc := 59) (f := 8) rfl d_HS_trueShare_59 fl_HS_95 hB ?_
        refine g_i2f (pc := 62) d_HS_trueShare_62 ?_
        refine g_fdiv (pc := 63) d_HS_trueShare_63 (by rw [hs]; exact fd_n32 _ (nI_ne0 h0 (by omega))) ?_
        refine g_goto (pc := 64) (tgt := 68) d_HS_trueShare_64 (by decide) ?_
        refine g_fret (pc := 68) d_HS_trueShare_68 rfl ?_
        rw [e9, hs]
        exact ⟨rfl, rfl⟩
    · skip
      have e9 : k < sc := by rw [hs] at c_12; exact Nat.lt_of_not_le (fun z => c_12 ((nI_leI (by omega) (by omega)).mpr z))
      refine g_aload_n (pc := 15) d_HS_trueShare_15 rfl 2 rfl ?_
      refine g_getR (pc := 16) (ci := 0) (f := 2) (b := b) rfl r_x_2 d_HS_trueShare_16 fl_HS_50 (by decide) k_x ?_
      refine g_aload_n (pc := 19) d_HS_trueShare_19 rfl 2 rfl ?_
      refine g_getR (pc := 20) (ci := 0) (f := 2) (b := b) rfl r_x_2 d_HS_trueShare_20 fl_HS_50 (by decide) k_x ?_
      refine g_bgS (pc := 23) d_HS_trueShare_23 fl_HS_264 hB ?_
      refine g_iload_n (pc := 26) d_HS_trueShare_26 rfl 0 rfl ?_
      refine g_bsl (pc := 27) d_HS_trueShare_27 hB (by first | assumption | omega | decide) ?_
      refine g_cV1 (pc := 28) (ci := 4) (As := [.ref _]) d_HS_trueShare_28 rfl mv_BU_hasTrueScale st_HS_trueShare_223 rfl rfl (by decide) rfl rfl (Nat.le_of_ble_eq_true rfl) hB.1 (cb_hasTrueScale hB (by first | assumption | omega | decide) hw hn) ?_
      refine g_if_eq (pc := 31) (tgt := 37) d_HS_trueShare_31 (by decide) (fun c_31 => ?_) (fun c_31 => ?_)
      · skip
        obtain ⟨x_1, hx_1⟩ : ∃ y : Int32, y = (nI k) + 1 := ⟨_, rfl⟩
        refine g_iinc (pc := 37) (w := 0) (v := x_1) (lv' := [(2, .int x_1), (1, .int (nI (Q_true B.1 B.2.1 B.2.2 nw k))), (0, .ref x)]) d_HS_trueShare_37 rfl (by rw [hx_1]; rfl) (by decide) rfl ?_
        refine g_goto (pc := 40) (tgt := 4) d_HS_trueShare_40 (by decide) ?_
        have e8 : x_1 = nI (k + 1) := by rw [hx_1]; exact nI_1 _
        clear hx_1
        subst e8
        rw [show Q_true B.1 B.2.1 B.2.2 nw k = Q_true B.1 B.2.1 B.2.2 nw (k + 1) from by rw [Q_true, if_neg (of_decide_eq_false (bI_0.mp c_31))]]
        refine g_perm [0, 1, 2] rfl ?_
        exact ih (k + 1) (by omega) (by omega)
      · skip
        obtain ⟨x_2, hx_2⟩ : ∃ y : Int32, y = (nI (Q_true B.1 B.2.1 B.2.2 nw k)) + 1 := ⟨_, rfl⟩
        refine g_iinc (pc := 34) (w := 1) (v := x_2) (lv' := [(1, .int x_2), (2, .int (nI k)), (0, .ref x)]) d_HS_trueShare_34 rfl (by rw [hx_2]; rfl) (by decide) rfl ?_
        obtain ⟨x_3, hx_3⟩ : ∃ y : Int32, y = (nI k) + 1 := ⟨_, rfl⟩
        refine g_iinc (pc := 37) (w := 1) (v := x_3) (lv' := [(2, .int x_3), (1, .int x_2), (0, .ref x)]) d_HS_trueShare_37 rfl (by rw [hx_3]; rfl) (by decide) rfl ?_
        refine g_goto (pc := 40) (tgt := 4) d_HS_trueShare_40 (by decide) ?_
        have e8 : x_3 = nI (k + 1) := by rw [hx_3]; exact nI_1 _
        clear hx_3
        subst e8
        have e7 : x_2 = nI (Q_true B.1 B.2.1 B.2.2 nw (k + 1)) := by rw [hx_2, Q_true, if_pos (of_decide_eq_true (bI_n0 c_31))]; exact nI_1 _
        clear hx_2
        subst e7
        refine g_perm [0, 1, 2] rfl ?_
        exact ih (k + 1) (by omega) (by omega)
set_option maxRecDepth 20000 in
theorem cs_HS_trueShare {E : En} {h : Hp} {x b nw sc ni U : Nat} {B : Bu} (k_x : hK h x = 1) (r_x_2 : hR h x 2 = some b) (hB : BuOk h b) (hG : Gd B nw sc ni U) : CR E m_HS_trueShare [.ref x] (wB h b B) (some (.float (FP.fdiv (FP.i2f (nI (Q_true B.1 B.2.1 B.2.2 nw sc))) (FP.i2f (nI sc))))) (wB h b B) := by
  refine ct_of rfl (by decide +kernel) (Nat.le_of_ble_eq_true rfl) ?_
  show G E m_HS_trueShare 0 [(0, .ref x)] [] (wB h b B) 0 0 _ noX
  obtain ⟨hw, hn, hs, hm, h0, hni, n3, ⟨sd, hsd, hsx⟩, hop⟩ := id hG.1
  refine g_iconst (pc := 0) (v := 0) d_HS_trueShare_0 (by decide) ?_
  refine g_nameI (fun x_1 hx_1 => ?_)
  refine g_istore_n (pc := 1) (lv' := [(1, .int x_1), (0, .ref x)]) d_HS_trueShare_1 rfl (by decide) rfl ?_
  refine g_iconst (pc := 2) (v := 0) d_HS_trueShare_2 (by decide) ?_
  refine g_nameI (fun x_2 hx_2 => ?_)
  refine g_istore_n (pc := 3) (lv' := [(2, .int x_2), (1, .int x_1), (0, .ref x)]) d_HS_trueShare_3 rfl (by decide) rfl ?_
  subst hx_1
  subst hx_2
  exact lp_HS_trueShare k_x r_x_2 hB hG (sc + 1) 0 (Nat.zero_le _) (by omega)
