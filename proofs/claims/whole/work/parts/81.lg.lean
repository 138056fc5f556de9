/-! THE LAW: its loop -/
theorem and63 (v : Int32) : ∃ w, w < 64 ∧ v &&& 63 = nI w := by
  have h : v.toBitVec.toNat &&& 63 < 64 := Nat.lt_of_le_of_lt Nat.and_le_right (by decide)
  refine ⟨v.toBitVec.toNat &&& 63, h, ?_⟩
  apply Int32.toBitVec_inj.mp
  show v.toBitVec &&& (63 : Int32).toBitVec = BitVec.ofNat 32 (v.toBitVec.toNat &&& 63)
  apply BitVec.eq_of_toNat_eq
  rw [BitVec.toNat_and, BitVec.toNat_ofNat, Nat.mod_eq_of_lt (Nat.lt_trans h (by decide))]
  rfl
def tgL : List Nat := [312, 416, 472, 485, 498, 542, 586, 642, 698, 754, 822, 878, 934, 990, 1046, 1090, 1126, 1182, 1195, 1208, 1264, 1320, 1333, 1346, 1359, 1372, 1385, 1441, 1497, 1553, 1621, 1689, 1745, 1808, 1864, 1920, 1983, 1996, 2009, 2072, 2128, 2184, 2240, 2296, 2352, 2408, 2464, 2489, 2552, 2608, 2664, 2720, 2733, 2789, 2857, 2925, 2938, 2994, 3050, 3106, 3119, 3160, 3203, 3259]
theorem sw_ok : ∀ w, w < 64 → (#[272, 376, 432, 445, 458, 502, 546, 602, 658, 714, 782, 838, 894, 950, 1006, 1050, 1086, 1142, 1155, 1168, 1224, 1280, 1293, 1306, 1319, 1332, 1345, 1401, 1457, 1513, 1581, 1649, 1705, 1768, 1824, 1880, 1943, 1956, 1969, 2032, 2088, 2144, 2200, 2256, 2312, 2368, 2424, 2449, 2512, 2568, 2624, 2680, 2693, 2749, 2817, 2885, 2898, 2954, 3010, 3066, 3079, 3120, 3163, 3219] : Array Int)[((nI w).toInt - 0).toNat]? = some ((tgL.getD w 0 : Nat) - 40 : Int) := by decide +kernel
theorem case64 {P : Nat → Prop} (h0 : P 0) (h1 : P 1) (h2 : P 2) (h3 : P 3) (h4 : P 4) (h5 : P 5) (h6 : P 6) (h7 : P 7) (h8 : P 8) (h9 : P 9) (h10 : P 10) (h11 : P 11) (h12 : P 12) (h13 : P 13) (h14 : P 14) (h15 : P 15) (h16 : P 16) (h17 : P 17) (h18 : P 18) (h19 : P 19) (h20 : P 20) (h21 : P 21) (h22 : P 22) (h23 : P 23) (h24 : P 24) (h25 : P 25) (h26 : P 26) (h27 : P 27) (h28 : P 28) (h29 : P 29) (h30 : P 30) (h31 : P 31) (h32 : P 32) (h33 : P 33) (h34 : P 34) (h35 : P 35) (h36 : P 36) (h37 : P 37) (h38 : P 38) (h39 : P 39) (h40 : P 40) (h41 : P 41) (h42 : P 42) (h43 : P 43) (h44 : P 44) (h45 : P 45) (h46 : P 46) (h47 : P 47) (h48 : P 48) (h49 : P 49) (h50 : P 50) (h51 : P 51) (h52 : P 52) (h53 : P 53) (h54 : P 54) (h55 : P 55) (h56 : P 56) (h57 : P 57) (h58 : P 58) (h59 : P 59) (h60 : P 60) (h61 : P 61) (h62 : P 62) (h63 : P 63) : ∀ w, w < 64 → P w
  | 0, _ => h0
  | 1, _ => h1
  | 2, _ => h2
  | 3, _ => h3
  | 4, _ => h4
  | 5, _ => h5
  | 6, _ => h6
  | 7, _ => h7
  | 8, _ => h8
  | 9, _ => h9
  | 10, _ => h10
  | 11, _ => h11
  | 12, _ => h12
  | 13, _ => h13
  | 14, _ => h14
  | 15, _ => h15
  | 16, _ => h16
  | 17, _ => h17
  | 18, _ => h18
  | 19, _ => h19
  | 20, _ => h20
  | 21, _ => h21
  | 22, _ => h22
  | 23, _ => h23
  | 24, _ => h24
  | 25, _ => h25
  | 26, _ => h26
  | 27, _ => h27
  | 28, _ => h28
  | 29, _ => h29
  | 30, _ => h30
  | 31, _ => h31
  | 32, _ => h32
  | 33, _ => h33
  | 34, _ => h34
  | 35, _ => h35
  | 36, _ => h36
  | 37, _ => h37
  | 38, _ => h38
  | 39, _ => h39
  | 40, _ => h40
  | 41, _ => h41
  | 42, _ => h42
  | 43, _ => h43
  | 44, _ => h44
  | 45, _ => h45
  | 46, _ => h46
  | 47, _ => h47
  | 48, _ => h48
  | 49, _ => h49
  | 50, _ => h50
  | 51, _ => h51
  | 52, _ => h52
  | 53, _ => h53
  | 54, _ => h54
  | 55, _ => h55
  | 56, _ => h56
  | 57, _ => h57
  | 58, _ => h58
  | 59, _ => h59
  | 60, _ => h60
  | 61, _ => h61
  | 62, _ => h62
  | 63, _ => h63
  | n + 64, h => absurd h (by omega)
theorem law_case {E : En} {h : Hp} {A : Nat → Nat} {j c k n : Nat} {PP : Option Value → Hp → Prop} {X : String → Hp → Prop} (hE : (eL E).stackTraces = false) (hc : c ≤ 512) (hl : eXl E < 2 ^ 31) (hj : j + 5 < eXl E) (L : LOK h A c) (kk : ∀ h1, LOK h1 A (c + 1) → G E m_LAW 3284 [(4, .int (nI j)), (3, .ref (A 0)), (2, .ref (A 8)), (1, .ref (A 22)), (0, .ref (eXa E))] [] h1 k n PP X) : ∀ w, w < 64 → G E m_LAW (tgL.getD w 0) [(4, .int (nI j)), (3, .ref (A 0)), (2, .ref (A 8)), (1, .ref (A 22)), (0, .ref (eXa E))] [] h (k + 11) (n + 156) PP X := by
  obtain ⟨γ, s, L⟩ := L
  have k_x : hK h (A 22) = 1 := L.1.1.1.1
  refine case64 ?_ ?_ ?_ ?_ ?_ ?_ ?_ ?_ ?_ ?_ ?_ ?_ ?_ ?_ ?_ ?_ ?_ ?_ ?_ ?_ ?_ ?_ ?_ ?_ ?_ ?_ ?_ ?_ ?_ ?_ ?_ ?_ ?_ ?_ ?_ ?_ ?_ ?_ ?_ ?_ ?_ ?_ ?_ ?_ ?_ ?_ ?_ ?_ ?_ ?_ ?_ ?_ ?_ ?_ ?_ ?_ ?_ ?_ ?_ ?_ ?_ ?_ ?_ ?_
  · show G E m_LAW 312 _ _ _ _ _ _ _
    exact lc_0 hl hj (an_append hE L hc) kk
  · show G E m_LAW 416 _ _ _ _ _ _ _
    exact lc_1 hl hj (an_truncate hE L hc) kk
  · show G E m_LAW 472 _ _ _ _ _ _ _
    exact g_less (k := k) (n := n) (by omega) (by omega) (lc_2 hl hj k_x (an_errorCode L hc) kk)
  · show G E m_LAW 485 _ _ _ _ _ _ _
    exact g_less (k := k) (n := n) (by omega) (by omega) (lc_3 hl hj k_x (an_errorPosition L hc) kk)
  · show G E m_LAW 498 _ _ _ _ _ _ _
    exact lc_4 hl hj (an_loadSetup hE L hc) kk
  · show G E m_LAW 542 _ _ _ _ _ _ _
    exact lc_5 hl hj (an_runScript hE L hc) kk
  · show G E m_LAW 586 _ _ _ _ _ _ _
    exact lc_6 hl hj (an_passDays hE L hc) kk
  · show G E m_LAW 642 _ _ _ _ _ _ _
    exact lc_7 hl hj (an_visit hE L hc) kk
  · show G E m_LAW 698 _ _ _ _ _ _ _
    exact lc_8 hl hj (an_repair hE L hc) kk
  · show G E m_LAW 754 _ _ _ _ _ _ _
    exact lc_9 hl hj (an_setThumb hE L hc) kk
  · show G E m_LAW 822 _ _ _ _ _ _ _
    exact lc_10 hl hj (an_complain hE L hc) kk
  · show G E m_LAW 878 _ _ _ _ _ _ _
    exact lc_11 hl hj (an_reopen hE L hc) kk
  · show G E m_LAW 934 _ _ _ _ _ _ _
    exact lc_12 hl hj (an_setInspectors hE L hc) kk
  · show G E m_LAW 990 _ _ _ _ _ _ _
    exact lc_13 hl hj (an_setFee hE L hc) kk
  · show G E m_LAW 1046 _ _ _ _ _ _ _
    exact lc_14 hl hj (an_undo hE L hc) kk
  · show G E m_LAW 1090 _ _ _ _ _ _ _
    exact lc_15 hl hj (an_saveSnapshot hE L hc) kk
  · show G E m_LAW 1126 _ _ _ _ _ _ _
    exact lc_16 hl hj (an_restoreSnapshot hE L hc) kk
  · show G E m_LAW 1182 _ _ _ _ _ _ _
    exact g_less (k := k) (n := n) (by omega) (by omega) (lc_17 hl hj k_x (an_day L hc) kk)
  · show G E m_LAW 1195 _ _ _ _ _ _ _
    exact g_less (k := k) (n := n) (by omega) (by omega) (lc_18 hl hj k_x (an_weightCount L hc) kk)
  · show G E m_LAW 1208 _ _ _ _ _ _ _
    exact lc_19 hl hj (an_testWeight hE L hc) kk
  · show G E m_LAW 1264 _ _ _ _ _ _ _
    exact lc_20 hl hj (an_bound hE L hc) kk
  · show G E m_LAW 1320 _ _ _ _ _ _ _
    exact g_less (k := k) (n := n) (by omega) (by omega) (lc_21 hl hj k_x (an_fee L hc) kk)
  · show G E m_LAW 1333 _ _ _ _ _ _ _
    exact g_less (k := k) (n := n) (by omega) (by omega) (lc_22 hl hj k_x (an_inspectors L hc) kk)
  · show G E m_LAW 1346 _ _ _ _ _ _ _
    exact g_less (k := k) (n := n) (by omega) (by omega) (lc_23 hl hj k_x (an_seed L hc) kk)
  · show G E m_LAW 1359 _ _ _ _ _ _ _
    exact g_less (k := k) (n := n) (by omega) (by omega) (lc_24 hl hj k_x (an_bureauCoins L hc) kk)
  · show G E m_LAW 1372 _ _ _ _ _ _ _
    exact g_less (k := k) (n := n) (by omega) (by omega) (lc_25 hl hj k_x (an_visits L hc) kk)
  · show G E m_LAW 1385 _ _ _ _ _ _ _
    exact lc_26 hl hj (an_offset hE L hc) kk
  · show G E m_LAW 1441 _ _ _ _ _ _ _
    exact lc_27 hl hj (an_slope hE L hc) kk
  · show G E m_LAW 1497 _ _ _ _ _ _ _
    exact lc_28 hl hj (an_drift hE L hc) kk
  · show G E m_LAW 1553 _ _ _ _ _ _ _
    exact lc_29 hl hj (an_reading hE L hc) kk
  · show G E m_LAW 1621 _ _ _ _ _ _ _
    exact lc_30 hl hj (an_excess hE L hc) kk
  · show G E m_LAW 1689 _ _ _ _ _ _ _
    exact lc_31 hl hj (an_totalExcess hE L hc) kk
  · show G E m_LAW 1745 _ _ _ _ _ _ _
    exact lc_32 hl hj (an_isTrue hE L hc) kk
  · show G E m_LAW 1808 _ _ _ _ _ _ _
    exact lc_33 hl hj (an_worstWeight hE L hc) kk
  · show G E m_LAW 1864 _ _ _ _ _ _ _
    exact lc_34 hl hj (an_stampedUntil hE L hc) kk
  · show G E m_LAW 1920 _ _ _ _ _ _ _
    exact lc_35 hl hj (an_isStamped hE L hc) kk
  · show G E m_LAW 1983 _ _ _ _ _ _ _
    exact g_less (k := k) (n := n) (by omega) (by omega) (lc_36 hl hj k_x (an_shopCount L hc) kk)
  · show G E m_LAW 1996 _ _ _ _ _ _ _
    exact g_less (k := k) (n := n) (by omega) (by omega) (lc_37 hl hj k_x (an_openShops L hc) kk)
  · show G E m_LAW 2009 _ _ _ _ _ _ _
    exact lc_38 hl hj (an_isOpen hE L hc) kk
  · show G E m_LAW 2072 _ _ _ _ _ _ _
    exact lc_39 hl hj (an_purse hE L hc) kk
  · show G E m_LAW 2128 _ _ _ _ _ _ _
    exact lc_40 hl hj (an_thumb hE L hc) kk
  · show G E m_LAW 2184 _ _ _ _ _ _ _
    exact lc_41 hl hj (an_complaints hE L hc) kk
  · show G E m_LAW 2240 _ _ _ _ _ _ _
    exact lc_42 hl hj (an_failures hE L hc) kk
  · show G E m_LAW 2296 _ _ _ _ _ _ _
    exact lc_43 hl hj (an_latestVisit hE L hc) kk
  · show G E m_LAW 2352 _ _ _ _ _ _ _
    exact lc_44 hl hj (an_finesOf hE L hc) kk
  · show G E m_LAW 2408 _ _ _ _ _ _ _
    exact lc_45 hl hj (an_gainsOf hE L hc) kk
  · show G E m_LAW 2464 _ _ _ _ _ _ _
    exact g_less (k := k) (n := n) (by omega) (by omega) (lc_46 hl hj k_x (an_shopAtRank L hc) kk)
  · show G E m_LAW 2489 _ _ _ _ _ _ _
    exact lc_47 hl hj (an_usesThumb hE L hc) kk
  · show G E m_LAW 2552 _ _ _ _ _ _ _
    exact lc_48 hl hj (an_fineIfVisited hE L hc) kk
  · show G E m_LAW 2608 _ _ _ _ _ _ _
    exact lc_49 hl hj (an_whyFail hE L hc) kk
  · show G E m_LAW 2664 _ _ _ _ _ _ _
    exact lc_50 hl hj (an_nextGain hE L hc) kk
  · show G E m_LAW 2720 _ _ _ _ _ _ _
    exact g_less (k := k) (n := n) (by omega) (by omega) (lc_51 hl hj k_x (an_nextVisited L hc) kk)
  · show G E m_LAW 2733 _ _ _ _ _ _ _
    exact lc_52 hl hj (an_daysUntilFalse hE L hc) kk
  · show G E m_LAW 2789 _ _ _ _ _ _ _
    exact lc_53 hl hj (an_purseAfter hE L hc) kk
  · show G E m_LAW 2857 _ _ _ _ _ _ _
    exact lc_54 hl hj (an_bestThumb hE L hc) kk
  · show G E m_LAW 2925 _ _ _ _ _ _ _
    exact g_less (k := k) (n := n) (by omega) (by omega) (lc_55 hl hj k_x (an_mostFined L hc) kk)
  · show G E m_LAW 2938 _ _ _ _ _ _ _
    exact lc_56 hl hj (an_ounces hE L hc) kk
  · show G E m_LAW 2994 _ _ _ _ _ _ _
    exact lc_57 hl hj (an_expiringStamps hE L hc) kk
  · show G E m_LAW 3050 _ _ _ _ _ _ _
    exact lc_58 hl hj (an_daysUntilClosed hE L hc) kk
  · show G E m_LAW 3106 _ _ _ _ _ _ _
    exact g_less (k := k) (n := n) (by omega) (by omega) (lc_59 hl hj k_x (an_coinError L hc) kk)
  · show G E m_LAW 3119 _ _ _ _ _ _ _
    obtain ⟨z, a⟩ := an_meanExcess (E := E) L hc
    exact g_less (k := k) (n := n) (by omega) (by omega) (lc_60 hl hj k_x a kk)
  · show G E m_LAW 3160 _ _ _ _ _ _ _
    obtain ⟨z, nz, a⟩ := an_trueShare (E := E) L hc
    exact g_less (k := k) (n := n) (by omega) (by omega) (lc_61 hl hj nz k_x a kk)
  · show G E m_LAW 3203 _ _ _ _ _ _ _
    exact lc_62 hl hj (an_writeShop hE L hc) kk
  · show G E m_LAW 3259 _ _ _ _ _ _ _
    exact g_less (k := k) (n := n) (by omega) (by omega) (lc_63 hl hj k_x (an_outputByte L hc) kk)
theorem lp_law {E : En} {A : Nat → Nat} {PP : Option Value → Hp → Prop} {X : String → Hp → Prop} (hE : (eL E).stackTraces = false) (hl : eXl E ≤ 3072) (hp : ∀ h, PP (some (.int 1)) h) : ∀ (d c : Nat) (h : Hp), c + d = 512 → LOK h A c → G E m_LAW 23 [(4, .int (nI (6 * c))), (3, .ref (A 0)), (2, .ref (A 8)), (1, .ref (A 22)), (0, .ref (eXa E))] [] h (11 * d) (156 * d) PP X := by
  have lI : (nI (eXl E)).toInt = eXl E := nI_toInt (by omega)
  have l6 : (nI (eXl E) - 6).toInt = (eXl E : Int) - 6 := by
    rw [i_subI (by rw [lI, show (6 : Int32).toInt = 6 from rfl]; omega) (by rw [lI, show (6 : Int32).toInt = 6 from rfl]; omega), lI]
    rfl
  intro d
  induction d with
  | zero =>
    intro c h hd L
    refine g_iload (pc := 23) d_LAW_23 0 rfl ?_
    refine g_aload_n (pc := 25) d_LAW_25 rfl 4 rfl ?_
    refine g_slen (pc := 26) d_LAW_26 ?_
    refine g_bipush (pc := 27) (v := 6) d_LAW_27 (by decide) ?_
    refine g_isub (pc := 29) d_LAW_29 ?_
    refine g_icmp_gt (pc := 30) (tgt := 3290) d_LAW_30 (by decide) (fun _ => ?_) (fun q => absurd ((i_lt _ _).mpr (by rw [l6, nI_toInt (by omega)]; omega)) q)
    refine g_iconst (pc := 3290) (v := 1) d_LAW_3290 (by decide) ?_
    refine g_zret (pc := 3291) d_LAW_3291 rfl rfl (hp _)
  | succ d ih =>
    intro c h hd L
    refine g_iload (pc := 23) d_LAW_23 0 rfl ?_
    refine g_aload_n (pc := 25) d_LAW_25 rfl 4 rfl ?_
    refine g_slen (pc := 26) d_LAW_26 ?_
    refine g_bipush (pc := 27) (v := 6) d_LAW_27 (by decide) ?_
    refine g_isub (pc := 29) d_LAW_29 ?_
    refine g_icmp_gt (pc := 30) (tgt := 3290) d_LAW_30 (by decide) (fun _ => ?_) (fun q => ?_)
    · refine g_iconst (pc := 3290) (v := 1) d_LAW_3290 (by decide) ?_
      refine g_zret (pc := 3291) d_LAW_3291 rfl rfl (hp _)
    · have q : ¬ ((eXl E : Int) - 6 < (nI (6 * c)).toInt) := fun z => q ((i_lt _ _).mpr (by rw [l6]; exact z))
      rw [nI_toInt (by omega)] at q
      refine g_aload_n (pc := 33) d_LAW_33 rfl 4 rfl ?_
      refine g_iload (pc := 34) d_LAW_34 0 rfl ?_
      refine g_sld (pc := 36) (j := 6 * c) (by omega) (by omega) d_LAW_36 ?_
      refine g_bipush (pc := 37) (v := 63) d_LAW_37 (by decide) ?_
      refine g_iand (pc := 39) d_LAW_39 ?_
      obtain ⟨w, hw, ew⟩ := and63 (eXs E (6 * c))
      refine g_top ew ?_
      have wI : (nI w).toInt = w := nI_toInt (by omega)
      refine g_tableIn (pc := 40) (tgt := tgL.getD w 0) d_LAW_40 (by rw [wI]; omega) (by rw [wI]; omega) (sw_ok w hw) (by omega) ?_
      show G E m_LAW (tgL.getD w 0) [(4, .int (nI (6 * c))), (3, .ref (A 0)), (2, .ref (A 8)), (1, .ref (A 22)), (0, .ref (eXa E))] [] h (11 * d + 11) (156 * d + 156) PP X
      refine law_case hE (by omega) (by omega) (by omega) L (fun h1 L1 => ?_) w hw
      refine g_iinc (pc := 3284) (w := 0) (v := nI (6 * (c + 1))) (lv' := [(4, .int (nI (6 * (c + 1)))), (3, .ref (A 0)), (2, .ref (A 8)), (1, .ref (A 22)), (0, .ref (eXa E))]) d_LAW_3284 rfl ?_ (by decide) rfl ?_
      · rw [show Int32.ofInt 6 = nI 6 from by decide]
        exact nI_add (6 * c) 6
      · refine g_goto (pc := 3287) (tgt := 23) d_LAW_3287 (by decide) ?_
        exact ih (c + 1) h1 (by omega) L1
