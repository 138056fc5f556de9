/-! THE JDK: Integer.stringSize, Integer.getChars -/
theorem neg_toInt {a : Nat} (h : a < 2 ^ 31) : (-nI a).toInt = -(a : Int) := by
  rw [Int32.toInt_neg, nI_toInt h, Int.bmod_eq_of_le (by omega) (by omega)]
theorem neg_le {w k : Nat} (hw : w < 2 ^ 31) (hk : k < 2 ^ 31) : -nI w ≤ -nI k ↔ k ≤ w := by
  rw [i_le, neg_toInt hw, neg_toInt hk]
  omega
theorem neg_abs {p : Int32} (hp : -2147483648 < p.toInt) : (if p < 0 then p else -p) = -nI p.toInt.natAbs := by
  have hb : p.toInt < 2147483648 := Int32.toInt_lt p
  apply Int32.toInt_inj.mp
  rw [neg_toInt (by omega)]
  by_cases h : p < 0
  · rw [if_pos h]
    have h2 : p.toInt < 0 := Int32.lt_iff_toInt_lt.mp h
    omega
  · rw [if_neg h, Int32.toInt_neg, Int.bmod_eq_of_le (by omega) (by omega)]
    have h2 : ¬ p.toInt < 0 := fun z => h (Int32.lt_iff_toInt_lt.mpr z)
    omega
theorem dgL_0 {w : Nat} (h : w < 10) : dgL w = 1 := by unfold dgL; rw [if_pos h]
theorem dgL_is : ∀ i, 1 ≤ i → i ≤ 9 → ∀ w, 10 ^ (i - 1) ≤ w ∨ i = 1 → w < 10 ^ i → dgL w = i := by
  intro i h1 h9 w hlo hhi
  unfold dgL
  rcases (show i = 1 ∨ i = 2 ∨ i = 3 ∨ i = 4 ∨ i = 5 ∨ i = 6 ∨ i = 7 ∨ i = 8 ∨ i = 9 by omega) with rfl | rfl | rfl | rfl | rfl | rfl | rfl | rfl | rfl <;> simp at hlo hhi <;> (repeat' split) <;> omega
theorem dgL_10 {w : Nat} (h : 1000000000 ≤ w) : dgL w = 10 := by
  unfold dgL
  (repeat' split) <;> omega
theorem dgL_100 {w : Nat} (h : 100 ≤ w) (h2 : w < 2 ^ 31) : dgL w = dgL (w / 100) + 2 := by
  unfold dgL
  (repeat' split) <;> omega
set_option maxRecDepth 20000 in
theorem lp_IT_size {E : En} {h : Hp} {w : Nat} {dv : Int32} (hw : w < 2 ^ 31) : G E m_IT_stringSize 16 [(3, .int (nI 1)), (2, .int (-nI 10)), (1, .int dv), (0, .int (-nI w))] [] h 0 0 (fun v h9 => v = some (.int (nI (dgL w) + dv)) ∧ h9 = h) noX := by
  refine g_iload_n (pc := 16) d_IT_stringSize_16 rfl 0 rfl ?_
  refine g_bipush (pc := 17) (v := 10) d_IT_stringSize_17 (by decide) ?_
  refine g_icmp_ge (pc := 19) (tgt := 42) d_IT_stringSize_19 (by decide) (fun c_19 => ?_) (fun c_19 => ?_)
  · exact absurd c_19 (by decide)
  · skip
    refine g_iload_n (pc := 22) d_IT_stringSize_22 rfl 3 rfl ?_
    refine g_iload_n (pc := 23) d_IT_stringSize_23 rfl 1 rfl ?_
    refine g_icmp_le (pc := 24) (tgt := 31) d_IT_stringSize_24 (by decide) (fun c_24 => ?_) (fun c_24 => ?_)
    · skip
      have w1 : 10 ≤ w := (neg_le hw (by decide)).mp c_24
      refine g_bipush (pc := 31) (v := 10) d_IT_stringSize_31 (by decide) ?_
      refine g_iload_n (pc := 33) d_IT_stringSize_33 rfl 1 rfl ?_
      refine g_imul (pc := 34) d_IT_stringSize_34 ?_
      refine g_top (y := -nI 100) (by decide) ?_
      refine g_istore_n (pc := 35) (lv' := [(2, .int (-nI 100)), (3, .int (nI 1)), (1, .int dv), (0, .int (-nI w))]) d_IT_stringSize_35 rfl (by decide) rfl ?_
      obtain ⟨x_101, hx_101⟩ : ∃ y : Int32, y = (nI 1) + 1 := ⟨_, rfl⟩
      refine g_iinc (pc := 36) (w := 1) (v := x_101) (lv' := [(3, .int x_101), (2, .int (-nI 100)), (1, .int dv), (0, .int (-nI w))]) d_IT_stringSize_36 rfl (by rw [hx_101]; rfl) (by decide) rfl ?_
      refine g_goto (pc := 39) (tgt := 16) d_IT_stringSize_39 (by decide) ?_
      have e8 : x_101 = nI 2 := by rw [hx_101]; exact nI_1 1
      clear hx_101
      subst e8
      refine g_perm [0, 1, 2, 3] rfl ?_
      refine g_iload_n (pc := 16) d_IT_stringSize_16 rfl 0 rfl ?_
      refine g_bipush (pc := 17) (v := 10) d_IT_stringSize_17 (by decide) ?_
      refine g_icmp_ge (pc := 19) (tgt := 42) d_IT_stringSize_19 (by decide) (fun c_19 => ?_) (fun c_19 => ?_)
      · exact absurd c_19 (by decide)
      · skip
        refine g_iload_n (pc := 22) d_IT_stringSize_22 rfl 3 rfl ?_
        refine g_iload_n (pc := 23) d_IT_stringSize_23 rfl 1 rfl ?_
        refine g_icmp_le (pc := 24) (tgt := 31) d_IT_stringSize_24 (by decide) (fun c_24 => ?_) (fun c_24 => ?_)
        · skip
          have w2 : 100 ≤ w := (neg_le hw (by decide)).mp c_24
          refine g_bipush (pc := 31) (v := 10) d_IT_stringSize_31 (by decide) ?_
          refine g_iload_n (pc := 33) d_IT_stringSize_33 rfl 1 rfl ?_
          refine g_imul (pc := 34) d_IT_stringSize_34 ?_
          refine g_top (y := -nI 1000) (by decide) ?_
          refine g_istore_n (pc := 35) (lv' := [(2, .int (-nI 1000)), (3, .int (nI 2)), (1, .int dv), (0, .int (-nI w))]) d_IT_stringSize_35 rfl (by decide) rfl ?_
          obtain ⟨x_201, hx_201⟩ : ∃ y : Int32, y = (nI 2) + 1 := ⟨_, rfl⟩
          refine g_iinc (pc := 36) (w := 1) (v := x_201) (lv' := [(3, .int x_201), (2, .int (-nI 1000)), (1, .int dv), (0, .int (-nI w))]) d_IT_stringSize_36 rfl (by rw [hx_201]; rfl) (by decide) rfl ?_
          refine g_goto (pc := 39) (tgt := 16) d_IT_stringSize_39 (by decide) ?_
          have e8 : x_201 = nI 3 := by rw [hx_201]; exact nI_1 2
          clear hx_201
          subst e8
          refine g_perm [0, 1, 2, 3] rfl ?_
          refine g_iload_n (pc := 16) d_IT_stringSize_16 rfl 0 rfl ?_
          refine g_bipush (pc := 17) (v := 10) d_IT_stringSize_17 (by decide) ?_
          refine g_icmp_ge (pc := 19) (tgt := 42) d_IT_stringSize_19 (by decide) (fun c_19 => ?_) (fun c_19 => ?_)
          · exact absurd c_19 (by decide)
          · skip
            refine g_iload_n (pc := 22) d_IT_stringSize_22 rfl 3 rfl ?_
            refine g_iload_n (pc := 23) d_IT_stringSize_23 rfl 1 rfl ?_
            refine g_icmp_le (pc := 24) (tgt := 31) d_IT_stringSize_24 (by decide) (fun c_24 => ?_) (fun c_24 => ?_)
            · skip
              have w3 : 1000 ≤ w := (neg_le hw (by decide)).mp c_24
              refine g_bipush (pc := 31) (v := 10) d_IT_stringSize_31 (by decide) ?_
              refine g_iload_n (pc := 33) d_IT_stringSize_33 rfl 1 rfl ?_
              refine g_imul (pc := 34) d_IT_stringSize_34 ?_
              refine g_top (y := -nI 10000) (by decide) ?_
              refine g_istore_n (pc := 35) (lv' := [(2, .int (-nI 10000)), (3, .int (nI 3)), (1, .int dv), (0, .int (-nI w))]) d_IT_stringSize_35 rfl (by decide) rfl ?_
              obtain ⟨x_301, hx_301⟩ : ∃ y : Int32, y = (nI 3) + 1 := ⟨_, rfl⟩
              refine g_iinc (pc := 36) (w := 1) (v := x_301) (lv' := [(3, .int x_301), (2, .int (-nI 10000)), (1, .int dv), (0, .int (-nI w))]) d_IT_stringSize_36 rfl (by rw [hx_301]; rfl) (by decide) rfl ?_
              refine g_goto (pc := 39) (tgt := 16) d_IT_stringSize_39 (by decide) ?_
              have e8 : x_301 = nI 4 := by rw [hx_301]; exact nI_1 3
              clear hx_301
              subst e8
              refine g_perm [0, 1, 2, 3] rfl ?_
              refine g_iload_n (pc := 16) d_IT_stringSize_16 rfl 0 rfl ?_
              refine g_bipush (pc := 17) (v := 10) d_IT_stringSize_17 (by decide) ?_
              refine g_icmp_ge (pc := 19) (tgt := 42) d_IT_stringSize_19 (by decide) (fun c_19 => ?_) (fun c_19 => ?_)
              · exact absurd c_19 (by decide)
              · skip
                refine g_iload_n (pc := 22) d_IT_stringSize_22 rfl 3 rfl ?_
                refine g_iload_n (pc := 23) d_IT_stringSize_23 rfl 1 rfl ?_
                refine g_icmp_le (pc := 24) (tgt := 31) d_IT_stringSize_24 (by decide) (fun c_24 => ?_) (fun c_24 => ?_)
                · skip
                  have w4 : 10000 ≤ w := (neg_le hw (by decide)).mp c_24
                  refine g_bipush (pc := 31) (v := 10) d_IT_stringSize_31 (by decide) ?_
                  refine g_iload_n (pc := 33) d_IT_stringSize_33 rfl 1 rfl ?_
                  refine g_imul (pc := 34) d_IT_stringSize_34 ?_
                  refine g_top (y := -nI 100000) (by decide) ?_
                  refine g_istore_n (pc := 35) (lv' := [(2, .int (-nI 100000)), (3, .int (nI 4)), (1, .int dv), (0, .int (-nI w))]) d_IT_stringSize_35 rfl (by decide) rfl ?_
                  obtain ⟨x_401, hx_401⟩ : ∃ y : Int32, y = (nI 4) + 1 := ⟨_, rfl⟩
                  refine g_iinc (pc := 36) (w := 1) (v := x_401) (lv' := [(3, .int x_401), (2, .int (-nI 100000)), (1, .int dv), (0, .int (-nI w))]) d_IT_stringSize_36 rfl (by rw [hx_401]; rfl) (by decide) rfl ?_
                  refine g_goto (pc := 39) (tgt := 16) d_IT_stringSize_39 (by decide) ?_
                  have e8 : x_401 = nI 5 := by rw [hx_401]; exact nI_1 4
                  clear hx_401
                  subst e8
                  refine g_perm [0, 1, 2, 3] rfl ?_
                  refine g_iload_n (pc := 16) d_IT_stringSize_16 rfl 0 rfl ?_
                  refine g_bipush (pc := 17) (v := 10) d_IT_stringSize_17 (by decide) ?_
                  refine g_icmp_ge (pc := 19) (tgt := 42) d_IT_stringSize_19 (by decide) (fun c_19 => ?_) (fun c_19 => ?_)
                  · exact absurd c_19 (by decide)
                  · skip
                    refine g_iload_n (pc := 22) d_IT_stringSize_22 rfl 3 rfl ?_
                    refine g_iload_n (pc := 23) d_IT_stringSize_23 rfl 1 rfl ?_
                    refine g_icmp_le (pc := 24) (tgt := 31) d_IT_stringSize_24 (by decide) (fun c_24 => ?_) (fun c_24 => ?_)
                    · skip
                      have w5 : 100000 ≤ w := (neg_le hw (by decide)).mp c_24
                      refine g_bipush (pc := 31) (v := 10) d_IT_stringSize_31 (by decide) ?_
                      refine g_iload_n (pc := 33) d_IT_stringSize_33 rfl 1 rfl ?_
                      refine g_imul (pc := 34) d_IT_stringSize_34 ?_
                      refine g_top (y := -nI 1000000) (by decide) ?_
                      refine g_istore_n (pc := 35) (lv' := [(2, .int (-nI 1000000)), (3, .int (nI 5)), (1, .int dv), (0, .int (-nI w))]) d_IT_stringSize_35 rfl (by decide) rfl ?_
                      obtain ⟨x_501, hx_501⟩ : ∃ y : Int32, y = (nI 5) + 1 := ⟨_, rfl⟩
                      refine g_iinc (pc := 36) (w := 1) (v := x_501) (lv' := [(3, .int x_501), (2, .int (-nI 1000000)), (1, .int dv), (0, .int (-nI w))]) d_IT_stringSize_36 rfl (by rw [hx_501]; rfl) (by decide) rfl ?_
                      refine g_goto (pc := 39) (tgt := 16) d_IT_stringSize_39 (by decide) ?_
                      have e8 : x_501 = nI 6 := by rw [hx_501]; exact nI_1 5
                      clear hx_501
                      subst e8
                      refine g_perm [0, 1, 2, 3] rfl ?_
                      refine g_iload_n (pc := 16) d_IT_stringSize_16 rfl 0 rfl ?_
                      refine g_bipush (pc := 17) (v := 10) d_IT_stringSize_17 (by decide) ?_
                      refine g_icmp_ge (pc := 19) (tgt := 42) d_IT_stringSize_19 (by decide) (fun c_19 => ?_) (fun c_19 => ?_)
                      · exact absurd c_19 (by decide)
                      · skip
                        refine g_iload_n (pc := 22) d_IT_stringSize_22 rfl 3 rfl ?_
                        refine g_iload_n (pc := 23) d_IT_stringSize_23 rfl 1 rfl ?_
                        refine g_icmp_le (pc := 24) (tgt := 31) d_IT_stringSize_24 (by decide) (fun c_24 => ?_) (fun c_24 => ?_)
                        · skip
                          have w6 : 1000000 ≤ w := (neg_le hw (by decide)).mp c_24
                          refine g_bipush (pc := 31) (v := 10) d_IT_stringSize_31 (by decide) ?_
                          refine g_iload_n (pc := 33) d_IT_stringSize_33 rfl 1 rfl ?_
                          refine g_imul (pc := 34) d_IT_stringSize_34 ?_
                          refine g_top (y := -nI 10000000) (by decide) ?_
                          refine g_istore_n (pc := 35) (lv' := [(2, .int (-nI 10000000)), (3, .int (nI 6)), (1, .int dv), (0, .int (-nI w))]) d_IT_stringSize_35 rfl (by decide) rfl ?_
                          obtain ⟨x_601, hx_601⟩ : ∃ y : Int32, y = (nI 6) + 1 := ⟨_, rfl⟩
                          refine g_iinc (pc := 36) (w := 1) (v := x_601) (lv' := [(3, .int x_601), (2, .int (-nI 10000000)), (1, .int dv), (0, .int (-nI w))]) d_IT_stringSize_36 rfl (by rw [hx_601]; rfl) (by decide) rfl ?_
                          refine g_goto (pc := 39) (tgt := 16) d_IT_stringSize_39 (by decide) ?_
                          have e8 : x_601 = nI 7 := by rw [hx_601]; exact nI_1 6
                          clear hx_601
                          subst e8
                          refine g_perm [0, 1, 2, 3] rfl ?_
                          refine g_iload_n (pc := 16) d_IT_stringSize_16 rfl 0 rfl ?_
                          refine g_bipush (pc := 17) (v := 10) d_IT_stringSize_17 (by decide) ?_
                          refine g_icmp_ge (pc := 19) (tgt := 42) d_IT_stringSize_19 (by decide) (fun c_19 => ?_) (fun c_19 => ?_)
                          · exact absurd c_19 (by decide)
                          · skip
                            refine g_iload_n (pc := 22) d_IT_stringSize_22 rfl 3 rfl ?_
                            refine g_iload_n (pc := 23) d_IT_stringSize_23 rfl 1 rfl ?_
                            refine g_icmp_le (pc := 24) (tgt := 31) d_IT_stringSize_24 (by decide) (fun c_24 => ?_) (fun c_24 => ?_)
                            · skip
                              have w7 : 10000000 ≤ w := (neg_le hw (by decide)).mp c_24
                              refine g_bipush (pc := 31) (v := 10) d_IT_stringSize_31 (by decide) ?_
                              refine g_iload_n (pc := 33) d_IT_stringSize_33 rfl 1 rfl ?_
                              refine g_imul (pc := 34) d_IT_stringSize_34 ?_
                              refine g_top (y := -nI 100000000) (by decide) ?_
                              refine g_istore_n (pc := 35) (lv' := [(2, .int (-nI 100000000)), (3, .int (nI 7)), (1, .int dv), (0, .int (-nI w))]) d_IT_stringSize_35 rfl (by decide) rfl ?_
                              obtain ⟨x_701, hx_701⟩ : ∃ y : Int32, y = (nI 7) + 1 := ⟨_, rfl⟩
                              refine g_iinc (pc := 36) (w := 1) (v := x_701) (lv' := [(3, .int x_701), (2, .int (-nI 100000000)), (1, .int dv), (0, .int (-nI w))]) d_IT_stringSize_36 rfl (by rw [hx_701]; rfl) (by decide) rfl ?_
                              refine g_goto (pc := 39) (tgt := 16) d_IT_stringSize_39 (by decide) ?_
                              have e8 : x_701 = nI 8 := by rw [hx_701]; exact nI_1 7
                              clear hx_701
                              subst e8
                              refine g_perm [0, 1, 2, 3] rfl ?_
                              refine g_iload_n (pc := 16) d_IT_stringSize_16 rfl 0 rfl ?_
                              refine g_bipush (pc := 17) (v := 10) d_IT_stringSize_17 (by decide) ?_
                              refine g_icmp_ge (pc := 19) (tgt := 42) d_IT_stringSize_19 (by decide) (fun c_19 => ?_) (fun c_19 => ?_)
                              · exact absurd c_19 (by decide)
                              · skip
                                refine g_iload_n (pc := 22) d_IT_stringSize_22 rfl 3 rfl ?_
                                refine g_iload_n (pc := 23) d_IT_stringSize_23 rfl 1 rfl ?_
                                refine g_icmp_le (pc := 24) (tgt := 31) d_IT_stringSize_24 (by decide) (fun c_24 => ?_) (fun c_24 => ?_)
                                · skip
                                  have w8 : 100000000 ≤ w := (neg_le hw (by decide)).mp c_24
                                  refine g_bipush (pc := 31) (v := 10) d_IT_stringSize_31 (by decide) ?_
                                  refine g_iload_n (pc := 33) d_IT_stringSize_33 rfl 1 rfl ?_
                                  refine g_imul (pc := 34) d_IT_stringSize_34 ?_
                                  refine g_top (y := -nI 1000000000) (by decide) ?_
                                  refine g_istore_n (pc := 35) (lv' := [(2, .int (-nI 1000000000)), (3, .int (nI 8)), (1, .int dv), (0, .int (-nI w))]) d_IT_stringSize_35 rfl (by decide) rfl ?_
                                  obtain ⟨x_801, hx_801⟩ : ∃ y : Int32, y = (nI 8) + 1 := ⟨_, rfl⟩
                                  refine g_iinc (pc := 36) (w := 1) (v := x_801) (lv' := [(3, .int x_801), (2, .int (-nI 1000000000)), (1, .int dv), (0, .int (-nI w))]) d_IT_stringSize_36 rfl (by rw [hx_801]; rfl) (by decide) rfl ?_
                                  refine g_goto (pc := 39) (tgt := 16) d_IT_stringSize_39 (by decide) ?_
                                  have e8 : x_801 = nI 9 := by rw [hx_801]; exact nI_1 8
                                  clear hx_801
                                  subst e8
                                  refine g_perm [0, 1, 2, 3] rfl ?_
                                  refine g_iload_n (pc := 16) d_IT_stringSize_16 rfl 0 rfl ?_
                                  refine g_bipush (pc := 17) (v := 10) d_IT_stringSize_17 (by decide) ?_
                                  refine g_icmp_ge (pc := 19) (tgt := 42) d_IT_stringSize_19 (by decide) (fun c_19 => ?_) (fun c_19 => ?_)
                                  · exact absurd c_19 (by decide)
                                  · skip
                                    refine g_iload_n (pc := 22) d_IT_stringSize_22 rfl 3 rfl ?_
                                    refine g_iload_n (pc := 23) d_IT_stringSize_23 rfl 1 rfl ?_
                                    refine g_icmp_le (pc := 24) (tgt := 31) d_IT_stringSize_24 (by decide) (fun c_24 => ?_) (fun c_24 => ?_)
                                    · skip
                                      have w9 : 1000000000 ≤ w := (neg_le hw (by decide)).mp c_24
                                      refine g_bipush (pc := 31) (v := 10) d_IT_stringSize_31 (by decide) ?_
                                      refine g_iload_n (pc := 33) d_IT_stringSize_33 rfl 1 rfl ?_
                                      refine g_imul (pc := 34) d_IT_stringSize_34 ?_
                                      obtain ⟨p9, hp9⟩ : ∃ z, z = 10 * -nI 1000000000 := ⟨_, rfl⟩
                                      refine g_top hp9.symm ?_
                                      refine g_istore_n (pc := 35) (lv' := [(2, .int p9), (3, .int (nI 9)), (1, .int dv), (0, .int (-nI w))]) d_IT_stringSize_35 rfl (by decide) rfl ?_
                                      obtain ⟨x_901, hx_901⟩ : ∃ y : Int32, y = (nI 9) + 1 := ⟨_, rfl⟩
                                      refine g_iinc (pc := 36) (w := 1) (v := x_901) (lv' := [(3, .int x_901), (2, .int p9), (1, .int dv), (0, .int (-nI w))]) d_IT_stringSize_36 rfl (by rw [hx_901]; rfl) (by decide) rfl ?_
                                      refine g_goto (pc := 39) (tgt := 16) d_IT_stringSize_39 (by decide) ?_
                                      have e8 : x_901 = nI 10 := by rw [hx_901]; exact nI_1 9
                                      clear hx_901
                                      subst e8
                                      refine g_perm [0, 1, 2, 3] rfl ?_
                                      refine g_iload_n (pc := 16) d_IT_stringSize_16 rfl 0 rfl ?_
                                      refine g_bipush (pc := 17) (v := 10) d_IT_stringSize_17 (by decide) ?_
                                      refine g_icmp_ge (pc := 19) (tgt := 42) d_IT_stringSize_19 (by decide) (fun c_19 => ?_) (fun c_19 => ?_)
                                      · skip
                                        refine g_bipush (pc := 42) (v := 10) d_IT_stringSize_42 (by decide) ?_
                                        refine g_iload_n (pc := 44) d_IT_stringSize_44 rfl 2 rfl ?_
                                        refine g_iadd (pc := 45) d_IT_stringSize_45 ?_
                                        refine g_iret (pc := 46) d_IT_stringSize_46 rfl ?_
                                        rw [dgL_10 (by omega)]
                                        exact ⟨rfl, rfl⟩
                                      · exact absurd (by decide) c_19
                                    · skip
                                      have w9 : w < 1000000000 := Nat.lt_of_not_le (fun z => c_24 ((neg_le hw (by decide)).mpr z))
                                      refine g_iload_n (pc := 27) d_IT_stringSize_27 rfl 0 rfl ?_
                                      refine g_iload_n (pc := 28) d_IT_stringSize_28 rfl 2 rfl ?_
                                      refine g_iadd (pc := 29) d_IT_stringSize_29 ?_
                                      refine g_iret (pc := 30) d_IT_stringSize_30 rfl ?_
                                      rw [dgL_is 9 (by decide) (by decide) w (Or.inl (show 100000000 ≤ w by omega)) (show w < 1000000000 by omega)]
                                      exact ⟨rfl, rfl⟩
                                · skip
                                  have w8 : w < 100000000 := Nat.lt_of_not_le (fun z => c_24 ((neg_le hw (by decide)).mpr z))
                                  refine g_iload_n (pc := 27) d_IT_stringSize_27 rfl 0 rfl ?_
                                  refine g_iload_n (pc := 28) d_IT_stringSize_28 rfl 2 rfl ?_
                                  refine g_iadd (pc := 29) d_IT_stringSize_29 ?_
                                  refine g_iret (pc := 30) d_IT_stringSize_30 rfl ?_
                                  rw [dgL_is 8 (by decide) (by decide) w (Or.inl (show 10000000 ≤ w by omega)) (show w < 100000000 by omega)]
                                  exact ⟨rfl, rfl⟩
                            · skip
                              have w7 : w < 10000000 := Nat.lt_of_not_le (fun z => c_24 ((neg_le hw (by decide)).mpr z))
                              refine g_iload_n (pc := 27) d_IT_stringSize_27 rfl 0 rfl ?_
                              refine g_iload_n (pc := 28) d_IT_stringSize_28 rfl 2 rfl ?_
                              refine g_iadd (pc := 29) d_IT_stringSize_29 ?_
                              refine g_iret (pc := 30) d_IT_stringSize_30 rfl ?_
                              rw [dgL_is 7 (by decide) (by decide) w (Or.inl (show 1000000 ≤ w by omega)) (show w < 10000000 by omega)]
                              exact ⟨rfl, rfl⟩
                        · skip
                          have w6 : w < 1000000 := Nat.lt_of_not_le (fun z => c_24 ((neg_le hw (by decide)).mpr z))
                          refine g_iload_n (pc := 27) d_IT_stringSize_27 rfl 0 rfl ?_
                          refine g_iload_n (pc := 28) d_IT_stringSize_28 rfl 2 rfl ?_
                          refine g_iadd (pc := 29) d_IT_stringSize_29 ?_
                          refine g_iret (pc := 30) d_IT_stringSize_30 rfl ?_
                          rw [dgL_is 6 (by decide) (by decide) w (Or.inl (show 100000 ≤ w by omega)) (show w < 1000000 by omega)]
                          exact ⟨rfl, rfl⟩
                    · skip
                      have w5 : w < 100000 := Nat.lt_of_not_le (fun z => c_24 ((neg_le hw (by decide)).mpr z))
                      refine g_iload_n (pc := 27) d_IT_stringSize_27 rfl 0 rfl ?_
                      refine g_iload_n (pc := 28) d_IT_stringSize_28 rfl 2 rfl ?_
                      refine g_iadd (pc := 29) d_IT_stringSize_29 ?_
                      refine g_iret (pc := 30) d_IT_stringSize_30 rfl ?_
                      rw [dgL_is 5 (by decide) (by decide) w (Or.inl (show 10000 ≤ w by omega)) (show w < 100000 by omega)]
                      exact ⟨rfl, rfl⟩
                · skip
                  have w4 : w < 10000 := Nat.lt_of_not_le (fun z => c_24 ((neg_le hw (by decide)).mpr z))
                  refine g_iload_n (pc := 27) d_IT_stringSize_27 rfl 0 rfl ?_
                  refine g_iload_n (pc := 28) d_IT_stringSize_28 rfl 2 rfl ?_
                  refine g_iadd (pc := 29) d_IT_stringSize_29 ?_
                  refine g_iret (pc := 30) d_IT_stringSize_30 rfl ?_
                  rw [dgL_is 4 (by decide) (by decide) w (Or.inl (show 1000 ≤ w by omega)) (show w < 10000 by omega)]
                  exact ⟨rfl, rfl⟩
            · skip
              have w3 : w < 1000 := Nat.lt_of_not_le (fun z => c_24 ((neg_le hw (by decide)).mpr z))
              refine g_iload_n (pc := 27) d_IT_stringSize_27 rfl 0 rfl ?_
              refine g_iload_n (pc := 28) d_IT_stringSize_28 rfl 2 rfl ?_
              refine g_iadd (pc := 29) d_IT_stringSize_29 ?_
              refine g_iret (pc := 30) d_IT_stringSize_30 rfl ?_
              rw [dgL_is 3 (by decide) (by decide) w (Or.inl (show 100 ≤ w by omega)) (show w < 1000 by omega)]
              exact ⟨rfl, rfl⟩
        · skip
          have w2 : w < 100 := Nat.lt_of_not_le (fun z => c_24 ((neg_le hw (by decide)).mpr z))
          refine g_iload_n (pc := 27) d_IT_stringSize_27 rfl 0 rfl ?_
          refine g_iload_n (pc := 28) d_IT_stringSize_28 rfl 2 rfl ?_
          refine g_iadd (pc := 29) d_IT_stringSize_29 ?_
          refine g_iret (pc := 30) d_IT_stringSize_30 rfl ?_
          rw [dgL_is 2 (by decide) (by decide) w (Or.inl (show 10 ≤ w by omega)) (show w < 100 by omega)]
          exact ⟨rfl, rfl⟩
    · skip
      have w1 : w < 10 := Nat.lt_of_not_le (fun z => c_24 ((neg_le hw (by decide)).mpr z))
      refine g_iload_n (pc := 27) d_IT_stringSize_27 rfl 0 rfl ?_
      refine g_iload_n (pc := 28) d_IT_stringSize_28 rfl 2 rfl ?_
      refine g_iadd (pc := 29) d_IT_stringSize_29 ?_
      refine g_iret (pc := 30) d_IT_stringSize_30 rfl ?_
      rw [dgL_is 1 (by decide) (by decide) w (Or.inr rfl) (show w < 10 by omega)]
      exact ⟨rfl, rfl⟩
theorem ct_IT_stringSize {E : En} {h : Hp} {p : Int32} (hp : -2147483648 < p.toInt) : CR E m_IT_stringSize [.int p] h (some (.int (nI (dgL p.toInt.natAbs + if p < 0 then 1 else 0)))) h := by
  refine ct_of rfl (by decide +kernel) (Nat.le_of_ble_eq_true rfl) ?_
  show G E m_IT_stringSize 0 [(0, .int p)] [] h 0 0 _ noX
  have hb : p.toInt < 2147483648 := Int32.toInt_lt p
  have hw : p.toInt.natAbs < 2 ^ 31 := by omega
  have ha := neg_abs hp
  refine g_iconst (pc := 0) (v := 1) d_IT_stringSize_0 (by decide) ?_
  refine g_istore_n (pc := 1) (lv' := [(1, .int 1), (0, .int p)]) d_IT_stringSize_1 rfl (by decide) rfl ?_
  refine g_iload_n (pc := 2) d_IT_stringSize_2 rfl 1 rfl ?_
  refine g_if_lt (pc := 3) (tgt := 11) d_IT_stringSize_3 (by decide) (fun c_3 => ?_) (fun c_3 => ?_)
  · skip
    have n1 : p < 0 := c_3
    refine g_bipush (pc := 11) (v := (-10)) d_IT_stringSize_11 (by decide) ?_
    refine g_top (y := -nI 10) (by decide) ?_
    refine g_istore_n (pc := 13) (lv' := [(2, .int (-nI 10)), (1, .int 1), (0, .int p)]) d_IT_stringSize_13 rfl (by decide) rfl ?_
    refine g_iconst (pc := 14) (v := 1) d_IT_stringSize_14 (by decide) ?_
    refine g_istore_n (pc := 15) (lv' := [(3, .int (nI 1)), (2, .int (-nI 10)), (1, .int 1), (0, .int p)]) d_IT_stringSize_15 rfl (by decide) rfl ?_
    rw [if_pos n1] at ha
    rw [if_pos n1]
    obtain ⟨w, hw9⟩ : ∃ w, w = p.toInt.natAbs := ⟨_, rfl⟩
    rw [← hw9] at ha hw ⊢
    rw [ha]
    have k := lp_IT_size (E := E) (h := h) (w := w) (dv := 1) hw
    rw [nI_1] at k
    refine g_perm [0, 1, 2, 3] rfl ?_
    exact k
  · skip
    have n1 : ¬ p < 0 := c_3
    refine g_iconst (pc := 6) (v := 0) d_IT_stringSize_6 (by decide) ?_
    refine g_istore_n (pc := 7) (lv' := [(1, .int 0), (0, .int p)]) d_IT_stringSize_7 rfl (by decide) rfl ?_
    refine g_iload_n (pc := 8) d_IT_stringSize_8 rfl 1 rfl ?_
    refine g_ineg (pc := 9) d_IT_stringSize_9 ?_
    refine g_top (y := -nI p.toInt.natAbs) (by rw [if_neg n1] at ha; exact ha) ?_
    refine g_istore_n (pc := 10) (lv' := [(0, .int (-nI p.toInt.natAbs)), (1, .int 0)]) d_IT_stringSize_10 rfl (by decide) rfl ?_
    refine g_bipush (pc := 11) (v := (-10)) d_IT_stringSize_11 (by decide) ?_
    refine g_top (y := -nI 10) (by decide) ?_
    refine g_istore_n (pc := 13) (lv' := [(2, .int (-nI 10)), (0, .int (-nI p.toInt.natAbs)), (1, .int 0)]) d_IT_stringSize_13 rfl (by decide) rfl ?_
    refine g_iconst (pc := 14) (v := 1) d_IT_stringSize_14 (by decide) ?_
    refine g_istore_n (pc := 15) (lv' := [(3, .int (nI 1)), (2, .int (-nI 10)), (0, .int (-nI p.toInt.natAbs)), (1, .int 0)]) d_IT_stringSize_15 rfl (by decide) rfl ?_
    rw [if_neg n1, Nat.add_zero]
    have k := lp_IT_size (E := E) (h := h) (w := p.toInt.natAbs) (dv := 0) hw
    rw [Int32.add_zero] at k
    refine g_perm [0, 1, 3, 2] rfl ?_
    exact k
