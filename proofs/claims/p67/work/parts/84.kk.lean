/-! THE LAW: pick -/
theorem and_4095 (x : Int32) : ∃ t, t < 4096 ∧ x &&& 4095 = nI t := by
  refine ⟨(x &&& 4095).toBitVec.toNat, ?_, ?_⟩
  · rw [Int32.toBitVec_and, BitVec.toNat_and]
    exact Nat.lt_of_le_of_lt Nat.and_le_right (by decide)
  · refine Int32.toBitVec_inj.mp ?_
    rw [show nI (x &&& 4095).toBitVec.toNat = Int32.ofNat (x &&& 4095).toBitVec.toNat from rfl, Int32.toBitVec_ofNat']
    simp
set_option maxRecDepth 20000 in
theorem cl_LW_pick {E : En} {k n : Nat} (hX : eXl E < 2 ^ 31) (hk : k < 1000) (hn : 0 < n) (hn9 : n < 10000) : ∃ m, m < n ∧ ∀ h, CR E m_LW_pick [.ref (eXa E), .int (nI k), .int (nI n)] h (some (.int (nI m))) h := by
  by_cases h0 : eXl E = 0
  · refine ⟨k % n, Nat.mod_lt _ hn, fun h => ?_⟩
    refine ct_of rfl (by decide +kernel) (Nat.le_of_ble_eq_true rfl) ?_
    show G E m_LW_pick 0 [(0, .ref (eXa E)), (1, .int (nI k)), (2, .int (nI n))] [] h 0 0 _ noX
    refine g_aload_n (pc := 0) d_LW_pick_0 rfl 0 rfl ?_
    refine g_slen (pc := 1) d_LW_pick_1 ?_
    refine g_if_ne (pc := 2) (tgt := 11) d_LW_pick_2 (by decide) (fun c_2 => ?_) (fun c_2 => ?_)
    · exact absurd (show nI (eXl E) = 0 by rw [h0]; rfl) c_2
    · skip
      refine g_iload_n (pc := 5) d_LW_pick_5 rfl 1 rfl ?_
      refine g_iload_n (pc := 6) d_LW_pick_6 rfl 2 rfl ?_
      refine g_irem (pc := 7) d_LW_pick_7 (by exact nI_ne0 hn (by omega)) ?_
      refine g_goto (pc := 8) (tgt := 33) d_LW_pick_8 (by decide) ?_
      refine g_iret (pc := 33) d_LW_pick_33 rfl ?_
      rw [nI_rem (by omega) (by omega) hn]
      exact ⟨rfl, rfl⟩
  · have l0 : 0 < eXl E := Nat.pos_of_ne_zero h0
    obtain ⟨t, ht, et⟩ := and_4095 (eXs E (k % eXl E) >>> (nI (k / eXl E % 9) * 3 &&& 31))
    have hq : k / eXl E ≤ k := Nat.div_le_self _ _
    refine ⟨t % n, Nat.mod_lt _ hn, fun h => ?_⟩
    refine ct_of rfl (by decide +kernel) (Nat.le_of_ble_eq_true rfl) ?_
    show G E m_LW_pick 0 [(0, .ref (eXa E)), (1, .int (nI k)), (2, .int (nI n))] [] h 0 0 _ noX
    refine g_aload_n (pc := 0) d_LW_pick_0 rfl 0 rfl ?_
    refine g_slen (pc := 1) d_LW_pick_1 ?_
    refine g_if_ne (pc := 2) (tgt := 11) d_LW_pick_2 (by decide) (fun c_2 => ?_) (fun c_2 => ?_)
    · skip
      refine g_aload_n (pc := 11) d_LW_pick_11 rfl 0 rfl ?_
      refine g_iload_n (pc := 12) d_LW_pick_12 rfl 1 rfl ?_
      refine g_aload_n (pc := 13) d_LW_pick_13 rfl 0 rfl ?_
      refine g_slen (pc := 14) d_LW_pick_14 ?_
      refine g_irem (pc := 15) d_LW_pick_15 (by exact nI_ne0 l0 hX) ?_
      rw [nI_rem (by omega) hX l0]
      refine g_sld (pc := 16) (j := k % eXl E) (Nat.mod_lt _ l0) hX d_LW_pick_16 ?_
      refine g_iload_n (pc := 17) d_LW_pick_17 rfl 1 rfl ?_
      refine g_aload_n (pc := 18) d_LW_pick_18 rfl 0 rfl ?_
      refine g_slen (pc := 19) d_LW_pick_19 ?_
      refine g_idiv (pc := 20) d_LW_pick_20 (by exact nI_ne0 l0 hX) ?_
      rw [nI_div (by omega) hX l0]
      refine g_bipush (pc := 21) (v := 9) d_LW_pick_21 (by decide) ?_
      refine g_irem (pc := 23) d_LW_pick_23 (by decide) ?_
      rw [show nI (k / eXl E) - nI (k / eXl E) / 9 * 9 = nI (k / eXl E % 9) from nI_rem (b := 9) (by omega) (by decide) (by decide)]
      refine g_iconst (pc := 24) (v := 3) d_LW_pick_24 (by decide) ?_
      refine g_imul (pc := 25) d_LW_pick_25 ?_
      refine g_ishr (pc := 26) d_LW_pick_26 ?_
      refine g_sipush (pc := 27) (v := 4095) d_LW_pick_27 (by decide) ?_
      refine g_iand (pc := 30) d_LW_pick_30 ?_
      refine g_top et ?_
      refine g_iload_n (pc := 31) d_LW_pick_31 rfl 2 rfl ?_
      refine g_irem (pc := 32) d_LW_pick_32 (by exact nI_ne0 hn (by omega)) ?_
      refine g_iret (pc := 33) d_LW_pick_33 rfl ?_
      rw [nI_rem (by omega) (by omega) hn]
      exact ⟨rfl, rfl⟩
    · exact absurd (nI_inj hX (by decide) c_2) h0
