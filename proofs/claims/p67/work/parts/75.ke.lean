/-! THE LAW: chosen -/
theorem co_LW_161 : Cond.constantLong "HonestScalesLaw" 161 (75) ∈ tG := tg_6 2 rfl rfl
theorem co_LW_163 : Cond.constantLong "HonestScalesLaw" 163 (74) ∈ tG := tg_6 3 rfl rfl
theorem co_LW_165 : Cond.constantLong "HonestScalesLaw" 165 (65537) ∈ tG := tg_6 4 rfl rfl
theorem nL_toInt {a : Nat} (h : a < 2 ^ 31) : (Int64.ofNat a).toInt = (a : Int) := Int64.toInt_ofNat_of_lt (by omega)
theorem nI_L {a : Nat} (h : a < 2 ^ 31) : (nI a).toInt64 = Int64.ofNat a := by
  refine Int64.toInt_inj.mp ?_
  rw [Int32.toInt_toInt64, nI_toInt h, nL_toInt h]
theorem nL_div {a b : Nat} (ha : a < 2 ^ 31) (hb : b < 2 ^ 31) : Int64.ofNat a / Int64.ofNat b = Int64.ofNat (a / b) := by
  refine Int64.toInt_inj.mp ?_
  have h1 : a / b < 2 ^ 31 := Nat.lt_of_le_of_lt (Nat.div_le_self a b) ha
  have h2 : ¬ Int64.ofNat a = Int64.minValue := fun e => by
    have z := congrArg Int64.toInt e
    rw [nL_toInt ha] at z
    have : Int64.minValue.toInt = -9223372036854775808 := by decide
    omega
  rw [Int64.toInt_div_of_ne_left _ _ h2, nL_toInt ha, nL_toInt hb, nL_toInt h1, Int.tdiv_eq_ediv_of_nonneg (Int.natCast_nonneg a)]
  exact (Int.natCast_ediv a b).symm
theorem nL_32 {a : Nat} : (Int64.ofNat a).toInt32 = nI a := Int64.toInt32_ofNat
theorem seed_L {sd : Nat} (h : sd ≤ 65536) : (75 * (nI sd).toInt64 + 74 - (75 * (nI sd).toInt64 + 74) / 65537 * 65537).toInt32 = nI (M_seed (nI sd)) := by
  rw [nI_L (by omega)]
  show (Int64.ofNat 75 * Int64.ofNat sd + Int64.ofNat 74 - (Int64.ofNat 75 * Int64.ofNat sd + Int64.ofNat 74) / Int64.ofNat 65537 * Int64.ofNat 65537).toInt32 = _
  rw [← Int64.ofNat_mul, ← Int64.ofNat_add, nL_div (by omega) (by decide), ← Int64.ofNat_mul]
  have e : Int64.ofNat ((75 * sd + 74) % 65537) + Int64.ofNat ((75 * sd + 74) / 65537 * 65537) = Int64.ofNat (75 * sd + 74) := by
    rw [← Int64.ofNat_add, Nat.mul_comm ((75 * sd + 74) / 65537)]; exact congrArg Int64.ofNat (Nat.mod_add_div _ _)
  rw [← e, Int64.add_sub_cancel, nL_32]
  unfold M_seed
  rw [nI_clamp (by omega)]
def P_cnt (B : Bu) : Nat → Nat
  | 0 => 0
  | n + 1 => if M_can B.1 (B.2.2 n) = true then P_cnt B n + 1 else P_cnt B n
theorem P_cnt_le (B : Bu) : ∀ n, P_cnt B n ≤ n
  | 0 => Nat.le_refl _
  | n + 1 => by rw [P_cnt]; have := P_cnt_le B n; split <;> omega
theorem P_cnt_0 (B : Bu) : ∀ n, P_cnt B n = 0 → ∀ i, i < n → M_can B.1 (B.2.2 i) = false
  | 0, _, i, hi => by omega
  | n + 1, e, i, hi => by
    rw [P_cnt] at e
    by_cases hc : M_can B.1 (B.2.2 n) = true
    · rw [if_pos hc] at e; omega
    · rw [if_neg hc] at e
      rcases Nat.lt_or_eq_of_le (Nat.le_of_lt_succ hi) with z | z
      · exact P_cnt_0 B n e i z
      · subst z; simpa using hc
theorem P_cnt_1 (B : Bu) : ∀ n, P_cnt B n ≠ 0 → ∃ i, i < n ∧ M_can B.1 (B.2.2 i) = true
  | 0, e => absurd rfl e
  | n + 1, e => by
    rw [P_cnt] at e
    by_cases hc : M_can B.1 (B.2.2 n) = true
    · exact ⟨n, Nat.lt_succ_self _, hc⟩
    · rw [if_neg hc] at e
      obtain ⟨i, h1, h2⟩ := P_cnt_1 B n e
      exact ⟨i, Nat.lt_succ_of_lt h1, h2⟩
theorem P_next_no {B : Bu} {sc : Nat} (hn : ∀ i, i < sc → M_can B.1 (B.2.2 i) = false) : ∀ d j, j < sc → P_next B sc d j = none
  | 0, _, _ => rfl
  | d + 1, j, hj => by rw [P_next, hn j hj]; exact P_next_no hn d _ (by split <;> omega)
theorem P_next_mod {B : Bu} {sc : Nat} (h0 : 0 < sc) (d a : Nat) : P_next B sc (d + 1) (a % sc) = if M_can B.1 (B.2.2 (a % sc)) = true then some (a % sc) else P_next B sc d ((a + 1) % sc) := by
  rw [P_next]
  have hm := Nat.mod_lt a h0
  have e : (if a % sc + 1 < sc then a % sc + 1 else 0) = (a + 1) % sc := by
    rw [Nat.add_mod]
    split
    · by_cases h1 : sc = 1
      · omega
      · rw [Nat.mod_eq_of_lt (a := 1) (by omega)]; exact (Nat.mod_eq_of_lt (by omega)).symm
    · by_cases h1 : sc = 1
      · subst h1; omega
      · rw [Nat.mod_eq_of_lt (a := 1) (by omega), show a % sc + 1 = sc by omega, Nat.mod_self]
  rw [e]
theorem P_next_yes {B : Bu} {sc : Nat} (h0 : 0 < sc) : ∀ d a, P_next B sc d (a % sc) = none → ∀ k, k < d → M_can B.1 (B.2.2 ((a + k) % sc)) = false
  | 0, _, _, k, hk => by omega
  | d + 1, a, e, k, hk => by
    rw [P_next_mod h0] at e
    by_cases hc : M_can B.1 (B.2.2 (a % sc)) = true
    · rw [if_pos hc] at e; cases e
    · rw [if_neg hc] at e
      cases k with
      | zero => simpa using hc
      | succ k => have z := P_next_yes h0 d (a + 1) e k (by omega); rw [show a + (k + 1) = a + 1 + k by omega]; exact z
theorem P_next_some {B : Bu} {sc : Nat} (h0 : 0 < sc) (hy : P_cnt B sc ≠ 0) (a : Nat) : P_next B sc sc (a % sc) ≠ none := fun e => by
  obtain ⟨i, h1, h2⟩ := P_cnt_1 B sc hy
  have ha := Nat.mod_lt a h0
  have hq := P_next_yes h0 sc a e
  by_cases hi : a % sc ≤ i
  · have z := hq (i - a % sc) (by omega)
    rw [Nat.add_mod, Nat.mod_eq_of_lt (a := i - a % sc) (by omega), show a % sc + (i - a % sc) = i by omega, Nat.mod_eq_of_lt h1, h2] at z
    cases z
  · have z := hq (sc + i - a % sc) (by omega)
    rw [Nat.add_mod, Nat.mod_eq_of_lt (a := sc + i - a % sc) (by omega), show a % sc + (sc + i - a % sc) = sc + i by omega, Nat.add_mod_left, Nat.mod_eq_of_lt h1, h2] at z
    cases z
theorem P_cnt_seed (B : Bu) (v : Int32) : ∀ n, P_cnt (sC B (u1 B.1 6 v)) n = P_cnt B n
  | 0 => rfl
  | n + 1 => by rw [P_cnt, P_cnt, P_cnt_seed B v n]; rfl
theorem P_most_no {B : Bu} {n : Nat} (hn : M_can B.1 (B.2.2 n) = false) : P_most B (n + 1) = P_most B n ∧ P_cnt B (n + 1) = P_cnt B n := by
  rw [P_most, P_cnt, hn]; exact ⟨rfl, rfl⟩
theorem P_most_inv (B : Bu) : ∀ n, P_most B n = (none, 0) ∨ ∃ j, j < n ∧ P_most B n = (some j, B.2.2 j 8) ∧ 0 < B.2.2 j 8
  | 0 => Or.inl rfl
  | n + 1 => by
    rw [P_most]
    by_cases hc : M_can B.1 (B.2.2 n) = true ∧ (P_most B n).2 < B.2.2 n 8
    · rw [if_pos hc]
      refine Or.inr ⟨n, Nat.lt_succ_self _, rfl, ?_⟩
      rcases P_most_inv B n with e | ⟨j, h1, e, h2⟩
      · rw [e] at hc; exact hc.2
      · rw [e] at hc; exact Int32.lt_trans h2 hc.2
    · rw [if_neg hc]
      rcases P_most_inv B n with e | ⟨j, h1, e, h2⟩
      · exact Or.inl e
      · exact Or.inr ⟨j, Nat.lt_succ_of_lt h1, e, h2⟩
theorem P_most_keep {B : Bu} {n : Nat} (hy : M_can B.1 (B.2.2 n) = true) (hc : ¬ (P_most B n).2 < B.2.2 n 8) : P_most B (n + 1) = P_most B n ∧ P_cnt B (n + 1) = P_cnt B n + 1 := by
  rw [P_most, P_cnt, if_neg (fun z => hc z.2), if_pos hy]; exact ⟨rfl, rfl⟩
theorem P_most_new {B : Bu} {n : Nat} (hy : M_can B.1 (B.2.2 n) = true) (hc : (P_most B n).2 < B.2.2 n 8) : P_most B (n + 1) = (some n, B.2.2 n 8) ∧ P_cnt B (n + 1) = P_cnt B n + 1 := by
  rw [P_most, P_cnt, if_pos ⟨hy, hc⟩, if_pos hy]; exact ⟨rfl, rfl⟩
set_option maxRecDepth 20000 in
theorem lp_LW_chosen1 {E : En} {h : Hp} {lb nw sc : Nat} {B : Bu} {PP : Option Value → Hp → Prop} (HL : LbOk h lb nw sc)
    (kk : G E m_LW_chosen 95 [(2, .int (nI (P_cnt B sc))), (1, .int (oI (P_most B sc).1)), (3, .int (nI sc)), (0, .ref lb)] [] (wT h lb sc B) 0 0 PP noX) : ∀ (d i : Nat), i ≤ sc → sc - i < d → G E m_LW_chosen 13 [(4, .int (nI i)), (2, .int (nI (P_cnt B i))), (1, .int (oI (P_most B i).1)), (3, .int (nI sc)), (0, .ref lb)] [] (wT h lb sc B) 0 0 PP noX := by
  intro d
  induction d with
  | zero => intros; omega
  | succ d ih =>
    intro i hi hd
    have s8 := HL.s8
    refine g_iload (pc := 13) d_LW_chosen_13 0 rfl ?_
    refine g_iload_n (pc := 15) d_LW_chosen_15 rfl 3 rfl ?_
    refine g_icmp_ge (pc := 16) (tgt := 95) d_LW_chosen_16 (by decide) (fun c_16 => ?_) (fun c_16 => ?_)
    · skip
      have eq9 : i = sc := by have := (nI_leI9 (a := sc) (b := i) (by omega) (by omega)).mp c_16; omega
      subst eq9
      refine g_perm [1, 2, 3, 4] rfl ?_
      exact kk
    · skip
      have hi9 : i < sc := Nat.lt_of_not_le (fun z => c_16 ((nI_leI9 (by omega) (by omega)).mpr z))
      refine g_aload_n (pc := 19) d_LW_chosen_19 rfl 4 rfl ?_
      refine g_th2 (pc := 20) d_LW_chosen_20 fl_LW_45 HL ?_
      refine g_iload (pc := 23) d_LW_chosen_23 0 rfl ?_
      refine g_tsl (pc := 25) (i := i) d_LW_chosen_25 HL (by first | assumption | omega) ?_
      refine g_astore (pc := 26) (lv' := [(5, .ref (tw h lb i)), (4, .int (nI i)), (2, .int (nI (P_cnt B i))), (1, .int (oI (P_most B i).1)), (3, .int (nI sc)), (0, .ref lb)]) d_LW_chosen_26 (by decide) rfl ?_
      refine g_aload (pc := 28) d_LW_chosen_28 0 rfl ?_
      refine g_ttI (pc := 30) (f := 12) rfl d_LW_chosen_30 fl_LW_157 HL (by first | assumption | omega) ?_
      refine g_if_eq (pc := 33) (tgt := 89) d_LW_chosen_33 (by decide) (fun c_33 => ?_) (fun c_33 => ?_)
      · skip
        have e5 : P_most B (i + 1) = P_most B i ∧ P_cnt B (i + 1) = P_cnt B i := P_most_no (by unfold M_can; rw [c_33]; rfl)
        obtain ⟨x_1, hx_1⟩ : ∃ y : Int32, y = (nI i) + 1 := ⟨_, rfl⟩
        refine g_iinc (pc := 89) (w := 1) (v := x_1) (lv' := [(4, .int x_1), (5, .ref (tw h lb i)), (2, .int (nI (P_cnt B i))), (1, .int (oI (P_most B i).1)), (3, .int (nI sc)), (0, .ref lb)]) d_LW_chosen_89 rfl (by rw [hx_1]; rfl) (by decide) rfl ?_
        refine g_goto (pc := 92) (tgt := 13) d_LW_chosen_92 (by decide) ?_
        obtain rfl : x_1 = nI (i + 1) := by rw [hx_1]; exact nI_1 _
        have z := ih (i + 1) (by omega) (by omega)
        rw [e5.1, e5.2] at z
        refine g_perm [0, 2, 3, 4, 5] rfl ?_
        exact z
      · skip
        refine g_aload (pc := 36) d_LW_chosen_36 0 rfl ?_
        refine g_ttI (pc := 38) (f := 10) rfl d_LW_chosen_38 fl_LW_141 HL (by first | assumption | omega) ?_
        refine g_aload_n (pc := 41) d_LW_chosen_41 rfl 5 rfl ?_
        refine g_th0 (pc := 42) d_LW_chosen_42 fl_LW_30 HL ?_
        refine g_bipush (pc := 45) (v := 7) d_LW_chosen_45 (by decide) ?_
        refine g_thl (pc := 47) (j := 7) d_LW_chosen_47 HL (by decide) ?_
        refine g_icmp_ne (pc := 48) (tgt := 54) d_LW_chosen_48 (by decide) (fun c_48 => ?_) (fun c_48 => ?_)
        · skip
          have hy : M_can B.1 (B.2.2 i) = true := by
            unfold M_can
            rw [decide_eq_true (show B.2.2 i 12 ≠ 0 from c_33), decide_eq_true (show B.2.2 i 10 ≠ B.1 9 from c_48)]
            rfl
          obtain ⟨x_2, hx_2⟩ : ∃ y : Int32, y = (nI (P_cnt B i)) + 1 := ⟨_, rfl⟩
          refine g_iinc (pc := 54) (w := 2) (v := x_2) (lv' := [(2, .int x_2), (5, .ref (tw h lb i)), (4, .int (nI i)), (1, .int (oI (P_most B i).1)), (3, .int (nI sc)), (0, .ref lb)]) d_LW_chosen_54 rfl (by rw [hx_2]; rfl) (by decide) rfl ?_
          refine g_aload (pc := 57) d_LW_chosen_57 1 rfl ?_
          refine g_ttI (pc := 59) (f := 8) rfl d_LW_chosen_59 fl_LW_144 HL (by first | assumption | omega) ?_
          refine g_if_le (pc := 62) (tgt := 89) d_LW_chosen_62 (by decide) (fun c_62 => ?_) (fun c_62 => ?_)
          · skip
            have e5 : P_most B (i + 1) = P_most B i ∧ P_cnt B (i + 1) = P_cnt B i + 1 := P_most_keep hy (by
              rcases P_most_inv B i with e | ⟨j, h1, e, h2⟩
              · rw [e]; exact Int32.not_lt.mpr c_62
              · rw [e]; exact Int32.not_lt.mpr (Int32.le_trans c_62 (Int32.le_of_lt h2)))
            obtain ⟨x_3, hx_3⟩ : ∃ y : Int32, y = (nI i) + 1 := ⟨_, rfl⟩
            refine g_iinc (pc := 89) (w := 2) (v := x_3) (lv' := [(4, .int x_3), (2, .int x_2), (5, .ref (tw h lb i)), (1, .int (oI (P_most B i).1)), (3, .int (nI sc)), (0, .ref lb)]) d_LW_chosen_89 rfl (by rw [hx_3]; rfl) (by decide) rfl ?_
            refine g_goto (pc := 92) (tgt := 13) d_LW_chosen_92 (by decide) ?_
            obtain rfl : x_3 = nI (i + 1) := by rw [hx_3]; exact nI_1 _
            obtain rfl : x_2 = nI (P_cnt B i + 1) := by rw [hx_2]; exact nI_1 _
            have z := ih (i + 1) (by omega) (by omega)
            rw [e5.1, e5.2] at z
            refine g_perm [0, 1, 3, 4, 5] rfl ?_
            exact z
          · skip
            refine g_iload_n (pc := 65) d_LW_chosen_65 rfl 3 rfl ?_
            refine g_if_lt (pc := 66) (tgt := 86) d_LW_chosen_66 (by decide) (fun c_66 => ?_) (fun c_66 => ?_)
            · skip
              have e5 : P_most B (i + 1) = (some i, B.2.2 i 8) ∧ P_cnt B (i + 1) = P_cnt B i + 1 := P_most_new hy (by
                rcases P_most_inv B i with e | ⟨j, h1, e, h2⟩
                · rw [e]; exact Int32.not_le.mp c_62
                · exact absurd (show nI j < 0 by rw [e] at c_66; exact c_66) (nI_pos (by omega)))
              refine g_iload (pc := 86) d_LW_chosen_86 2 rfl ?_
              refine g_istore_n (pc := 88) (lv' := [(1, .int (nI i)), (2, .int x_2), (5, .ref (tw h lb i)), (4, .int (nI i)), (3, .int (nI sc)), (0, .ref lb)]) d_LW_chosen_88 rfl (by decide) rfl ?_
              obtain ⟨x_4, hx_4⟩ : ∃ y : Int32, y = (nI i) + 1 := ⟨_, rfl⟩
              refine g_iinc (pc := 89) (w := 3) (v := x_4) (lv' := [(4, .int x_4), (1, .int (nI i)), (2, .int x_2), (5, .ref (tw h lb i)), (3, .int (nI sc)), (0, .ref lb)]) d_LW_chosen_89 rfl (by rw [hx_4]; rfl) (by decide) rfl ?_
              refine g_goto (pc := 92) (tgt := 13) d_LW_chosen_92 (by decide) ?_
              obtain rfl : x_4 = nI (i + 1) := by rw [hx_4]; exact nI_1 _
              obtain rfl : x_2 = nI (P_cnt B i + 1) := by rw [hx_2]; exact nI_1 _
              have z := ih (i + 1) (by omega) (by omega)
              rw [e5.1, e5.2] at z
              refine g_perm [0, 2, 1, 4, 5] rfl ?_
              exact z
            · skip
              obtain ⟨j, hj1, hj2, hj3⟩ : ∃ j, j < i ∧ P_most B i = (some j, B.2.2 j 8) ∧ 0 < B.2.2 j 8 := by
                rcases P_most_inv B i with e | z
                · exact absurd (show oI (P_most B i).1 < 0 by rw [e]; decide) c_66
                · exact z
              refine g_aload (pc := 69) d_LW_chosen_69 1 rfl ?_
              refine g_ttI (pc := 71) (f := 8) rfl d_LW_chosen_71 fl_LW_144 HL (by first | assumption | omega) ?_
              refine g_aload_n (pc := 74) d_LW_chosen_74 rfl 5 rfl ?_
              refine g_th2 (pc := 75) d_LW_chosen_75 fl_LW_45 HL ?_
              refine g_iload_n (pc := 78) d_LW_chosen_78 rfl 3 rfl ?_
              refine g_top (y := nI j) (by rw [hj2]; rfl) ?_
              refine g_tsl (pc := 79) (i := j) d_LW_chosen_79 HL (by first | assumption | omega) ?_
              refine g_ttI (pc := 80) (f := 8) rfl d_LW_chosen_80 fl_LW_144 HL (by first | assumption | omega) ?_
              refine g_icmp_le (pc := 83) (tgt := 89) d_LW_chosen_83 (by decide) (fun c_83 => ?_) (fun c_83 => ?_)
              · skip
                have e5 : P_most B (i + 1) = P_most B i ∧ P_cnt B (i + 1) = P_cnt B i + 1 := P_most_keep hy (by rw [hj2]; exact Int32.not_lt.mpr c_83)
                obtain ⟨x_5, hx_5⟩ : ∃ y : Int32, y = (nI i) + 1 := ⟨_, rfl⟩
                refine g_iinc (pc := 89) (w := 2) (v := x_5) (lv' := [(4, .int x_5), (2, .int x_2), (5, .ref (tw h lb i)), (1, .int (oI (P_most B i).1)), (3, .int (nI sc)), (0, .ref lb)]) d_LW_chosen_89 rfl (by rw [hx_5]; rfl) (by decide) rfl ?_
                refine g_goto (pc := 92) (tgt := 13) d_LW_chosen_92 (by decide) ?_
                obtain rfl : x_5 = nI (i + 1) := by rw [hx_5]; exact nI_1 _
                obtain rfl : x_2 = nI (P_cnt B i + 1) := by rw [hx_2]; exact nI_1 _
                have z := ih (i + 1) (by omega) (by omega)
                rw [e5.1, e5.2] at z
                refine g_perm [0, 1, 3, 4, 5] rfl ?_
                exact z
              · skip
                have e5 : P_most B (i + 1) = (some i, B.2.2 i 8) ∧ P_cnt B (i + 1) = P_cnt B i + 1 := P_most_new hy (by rw [hj2]; exact Int32.not_le.mp c_83)
                refine g_iload (pc := 86) d_LW_chosen_86 2 rfl ?_
                refine g_istore_n (pc := 88) (lv' := [(1, .int (nI i)), (2, .int x_2), (5, .ref (tw h lb i)), (4, .int (nI i)), (3, .int (nI sc)), (0, .ref lb)]) d_LW_chosen_88 rfl (by decide) rfl ?_
                obtain ⟨x_6, hx_6⟩ : ∃ y : Int32, y = (nI i) + 1 := ⟨_, rfl⟩
                refine g_iinc (pc := 89) (w := 3) (v := x_6) (lv' := [(4, .int x_6), (1, .int (nI i)), (2, .int x_2), (5, .ref (tw h lb i)), (3, .int (nI sc)), (0, .ref lb)]) d_LW_chosen_89 rfl (by rw [hx_6]; rfl) (by decide) rfl ?_
                refine g_goto (pc := 92) (tgt := 13) d_LW_chosen_92 (by decide) ?_
                obtain rfl : x_6 = nI (i + 1) := by rw [hx_6]; exact nI_1 _
                obtain rfl : x_2 = nI (P_cnt B i + 1) := by rw [hx_2]; exact nI_1 _
                have z := ih (i + 1) (by omega) (by omega)
                rw [e5.1, e5.2] at z
                refine g_perm [0, 2, 1, 4, 5] rfl ?_
                exact z
        · skip
          have e5 : P_most B (i + 1) = P_most B i ∧ P_cnt B (i + 1) = P_cnt B i := P_most_no (by
            unfold M_can
            rw [decide_eq_false (show ¬ B.2.2 i 10 ≠ B.1 9 from fun z => z c_48), Bool.and_false])
          refine g_goto (pc := 51) (tgt := 89) d_LW_chosen_51 (by decide) ?_
          obtain ⟨x_7, hx_7⟩ : ∃ y : Int32, y = (nI i) + 1 := ⟨_, rfl⟩
          refine g_iinc (pc := 89) (w := 1) (v := x_7) (lv' := [(4, .int x_7), (5, .ref (tw h lb i)), (2, .int (nI (P_cnt B i))), (1, .int (oI (P_most B i).1)), (3, .int (nI sc)), (0, .ref lb)]) d_LW_chosen_89 rfl (by rw [hx_7]; rfl) (by decide) rfl ?_
          refine g_goto (pc := 92) (tgt := 13) d_LW_chosen_92 (by decide) ?_
          obtain rfl : x_7 = nI (i + 1) := by rw [hx_7]; exact nI_1 _
          have z := ih (i + 1) (by omega) (by omega)
          rw [e5.1, e5.2] at z
          refine g_perm [0, 2, 3, 4, 5] rfl ?_
          exact z
set_option maxRecDepth 20000 in
theorem lp_LW_chosen2 {E : En} {h : Hp} {lb nw sc a : Nat} {B : Bu} {PP : Option Value → Hp → Prop} (HL : LbOk h lb nw sc) (ha : a ≤ 65536) (hs : B.1 6 = nI a) (r : Nat) (hr : P_next B sc sc (a % sc) = some r)
    (kk : PP (some (.int (nI r))) (wT h lb sc B)) : ∀ (d i : Nat), i ≤ sc → sc - i < d → P_next B sc (sc - i) ((a + i) % sc) = some r → G E m_LW_chosen 136 [(4, .int (nI i)), (3, .int (nI sc)), (0, .ref lb)] [] (wT h lb sc B) 0 0 PP noX := by
  intro d
  induction d with
  | zero => intros; omega
  | succ d ih =>
    intro i hi hd hp1
    have s8 := HL.s8
    have hm1 := Nat.mod_lt (a + i) s8.1
    refine g_iload (pc := 136) d_LW_chosen_136 0 rfl ?_
    refine g_iload_n (pc := 138) d_LW_chosen_138 rfl 1 rfl ?_
    refine g_icmp_ge (pc := 139) (tgt := 198) d_LW_chosen_139 (by decide) (fun c_139 => ?_) (fun c_139 => ?_)
    · exact absurd hp1 (by rw [show i = sc by have := (nI_leI9 (a := sc) (b := i) (by omega) (by omega)).mp c_139; omega, Nat.sub_self]; exact fun z => by cases z)
    · skip
      have hi9 : i < sc := Nat.lt_of_not_le (fun z => c_139 ((nI_leI9 (by omega) (by omega)).mpr z))
      refine g_aload_n (pc := 142) d_LW_chosen_142 rfl 2 rfl ?_
      refine g_th0 (pc := 143) d_LW_chosen_143 fl_LW_30 HL ?_
      refine g_bipush (pc := 146) (v := 6) d_LW_chosen_146 (by decide) ?_
      refine g_thl (pc := 148) (j := 6) d_LW_chosen_148 HL (by decide) ?_
      refine g_top (y := nI a) hs ?_
      refine g_iload (pc := 149) d_LW_chosen_149 0 rfl ?_
      refine g_iadd (pc := 151) d_LW_chosen_151 ?_
      refine g_iload_n (pc := 152) d_LW_chosen_152 rfl 1 rfl ?_
      rw [nI_add]
      refine g_irem (pc := 153) d_LW_chosen_153 (by exact nI_ne0 s8.1 (by omega)) ?_
      refine g_top (y := nI ((a + i) % sc)) (nI_rem (by omega) (by omega) s8.1) ?_
      refine g_istore (pc := 154) (lv' := [(5, .int (nI ((a + i) % sc))), (4, .int (nI i)), (3, .int (nI sc)), (0, .ref lb)]) d_LW_chosen_154 (by decide) rfl ?_
      refine g_aload_n (pc := 156) d_LW_chosen_156 rfl 3 rfl ?_
      refine g_th2 (pc := 157) d_LW_chosen_157 fl_LW_45 HL ?_
      refine g_iload (pc := 160) d_LW_chosen_160 0 rfl ?_
      refine g_tsl (pc := 162) (i := (a + i) % sc) d_LW_chosen_162 HL (by first | assumption | omega) ?_
      refine g_ttI (pc := 163) (f := 12) rfl d_LW_chosen_163 fl_LW_157 HL (by first | assumption | omega) ?_
      refine g_if_eq (pc := 166) (tgt := 192) d_LW_chosen_166 (by decide) (fun c_166 => ?_) (fun c_166 => ?_)
      · skip
        have hn : M_can B.1 (B.2.2 ((a + i) % sc)) = false := by unfold M_can; rw [c_166]; rfl
        have e5 : P_next B sc (sc - (i + 1)) ((a + (i + 1)) % sc) = some r := by
          rw [show sc - i = (sc - (i + 1)) + 1 by omega, P_next_mod s8.1, if_neg (by rw [hn]; decide)] at hp1
          exact hp1
        obtain ⟨x_1, hx_1⟩ : ∃ y : Int32, y = (nI i) + 1 := ⟨_, rfl⟩
        refine g_iinc (pc := 192) (w := 1) (v := x_1) (lv' := [(4, .int x_1), (5, .int (nI ((a + i) % sc))), (3, .int (nI sc)), (0, .ref lb)]) d_LW_chosen_192 rfl (by rw [hx_1]; rfl) (by decide) rfl ?_
        refine g_goto (pc := 195) (tgt := 136) d_LW_chosen_195 (by decide) ?_
        obtain rfl : x_1 = nI (i + 1) := by rw [hx_1]; exact nI_1 _
        refine g_perm [0, 2, 3] rfl ?_
        exact ih (i + 1) (by omega) (by omega) e5
      · skip
        refine g_aload_n (pc := 169) d_LW_chosen_169 rfl 3 rfl ?_
        refine g_th2 (pc := 170) d_LW_chosen_170 fl_LW_45 HL ?_
        refine g_iload (pc := 173) d_LW_chosen_173 0 rfl ?_
        refine g_tsl (pc := 175) (i := (a + i) % sc) d_LW_chosen_175 HL (by first | assumption | omega) ?_
        refine g_ttI (pc := 176) (f := 10) rfl d_LW_chosen_176 fl_LW_141 HL (by first | assumption | omega) ?_
        refine g_aload_n (pc := 179) d_LW_chosen_179 rfl 3 rfl ?_
        refine g_th0 (pc := 180) d_LW_chosen_180 fl_LW_30 HL ?_
        refine g_bipush (pc := 183) (v := 7) d_LW_chosen_183 (by decide) ?_
        refine g_thl (pc := 185) (j := 7) d_LW_chosen_185 HL (by decide) ?_
        refine g_icmp_eq (pc := 186) (tgt := 192) d_LW_chosen_186 (by decide) (fun c_186 => ?_) (fun c_186 => ?_)
        · skip
          have hn : M_can B.1 (B.2.2 ((a + i) % sc)) = false := by
            unfold M_can
            rw [show B.2.2 ((a + i) % sc) 10 = B.1 9 from c_186]
            simp
          have e5 : P_next B sc (sc - (i + 1)) ((a + (i + 1)) % sc) = some r := by
            rw [show sc - i = (sc - (i + 1)) + 1 by omega, P_next_mod s8.1, if_neg (by rw [hn]; decide)] at hp1
            exact hp1
          obtain ⟨x_2, hx_2⟩ : ∃ y : Int32, y = (nI i) + 1 := ⟨_, rfl⟩
          refine g_iinc (pc := 192) (w := 1) (v := x_2) (lv' := [(4, .int x_2), (5, .int (nI ((a + i) % sc))), (3, .int (nI sc)), (0, .ref lb)]) d_LW_chosen_192 rfl (by rw [hx_2]; rfl) (by decide) rfl ?_
          refine g_goto (pc := 195) (tgt := 136) d_LW_chosen_195 (by decide) ?_
          obtain rfl : x_2 = nI (i + 1) := by rw [hx_2]; exact nI_1 _
          refine g_perm [0, 2, 3] rfl ?_
          exact ih (i + 1) (by omega) (by omega) e5
        · skip
          have hy : M_can B.1 (B.2.2 ((a + i) % sc)) = true := by
            unfold M_can
            rw [decide_eq_true (show B.2.2 ((a + i) % sc) 12 ≠ 0 from c_166), decide_eq_true (show B.2.2 ((a + i) % sc) 10 ≠ B.1 9 from c_186)]
            rfl
          have e5 : (a + i) % sc = r := by
            rw [show sc - i = (sc - (i + 1)) + 1 by omega, P_next_mod s8.1, if_pos hy] at hp1
            exact Option.some.inj hp1
          refine g_iload (pc := 189) d_LW_chosen_189 0 rfl ?_
          refine g_iret (pc := 191) d_LW_chosen_191 rfl ?_
          rw [e5]
          exact kk
set_option maxRecDepth 20000 in
theorem cl_LW_chosen {E : En} {h : Hp} {lb nw sc : Nat} {B : Bu} {sd : Nat} (HL : LbOk h lb nw sc) (hsd : sd ≤ 65536) (hsx : B.1 6 = nI sd) : CR E m_LW_chosen [.ref lb] (wT h lb sc B) (some (.int (oI (P_choose B sc).1))) ((wT h lb sc (P_choose B sc).2)) := by
  refine ct_of rfl (by decide +kernel) (Nat.le_of_ble_eq_true rfl) ?_
  show G E m_LW_chosen 0 [(0, .ref lb)] [] (wT h lb sc B) 0 0 _ noX
  have s8 := HL.s8
  have hcl := P_cnt_le B sc
  refine g_iconst (pc := 0) (v := (-1)) d_LW_chosen_0 (by decide) ?_
  refine g_istore_n (pc := 1) (lv' := [(1, .int (oI (P_most B 0).1)), (0, .ref lb)]) d_LW_chosen_1 rfl (by decide) rfl ?_
  refine g_iconst (pc := 2) (v := 0) d_LW_chosen_2 (by decide) ?_
  refine g_istore_n (pc := 3) (lv' := [(2, .int (nI (P_cnt B 0))), (1, .int (oI (P_most B 0).1)), (0, .ref lb)]) d_LW_chosen_3 rfl (by decide) rfl ?_
  refine g_aload_n (pc := 4) d_LW_chosen_4 rfl 2 rfl ?_
  refine g_th2 (pc := 5) d_LW_chosen_5 fl_LW_45 HL ?_
  refine g_tsn (pc := 8) d_LW_chosen_8 HL ?_
  refine g_istore_n (pc := 9) (lv' := [(3, .int (nI sc)), (2, .int (nI (P_cnt B 0))), (1, .int (oI (P_most B 0).1)), (0, .ref lb)]) d_LW_chosen_9 rfl (by decide) rfl ?_
  refine g_iconst (pc := 10) (v := 0) d_LW_chosen_10 (by decide) ?_
  refine g_istore (pc := 11) (lv' := [(4, .int (nI 0)), (3, .int (nI sc)), (2, .int (nI (P_cnt B 0))), (1, .int (oI (P_most B 0).1)), (0, .ref lb)]) d_LW_chosen_11 (by decide) rfl ?_
  refine g_perm [0, 2, 3, 1, 4] rfl ?_
  refine lp_LW_chosen1 HL ?_ (sc + 1) 0 (by omega) (by omega)
  refine g_iload_n (pc := 95) d_LW_chosen_95 rfl 0 rfl ?_
  refine g_if_eq (pc := 96) (tgt := 103) d_LW_chosen_96 (by decide) (fun c_96 => ?_) (fun c_96 => ?_)
  · skip
    have hz : P_cnt B sc = 0 := nI_inj (by omega) (by decide) c_96
    have q9 : P_choose B sc = ((P_most B sc).1, B) := by
      unfold P_choose
      rw [if_pos (Or.inr (P_next_no (P_cnt_0 B sc hz) sc 0 s8.1))]
    refine g_iload_n (pc := 103) d_LW_chosen_103 rfl 1 rfl ?_
    refine g_iret (pc := 104) d_LW_chosen_104 rfl ?_
    rw [q9]
    exact ⟨rfl, rfl⟩
  · skip
    have hz : P_cnt B sc ≠ 0 := fun z => c_96 (by rw [z]; rfl)
    refine g_iload_n (pc := 99) d_LW_chosen_99 rfl 1 rfl ?_
    refine g_if_lt (pc := 100) (tgt := 105) d_LW_chosen_100 (by decide) (fun c_100 => ?_) (fun c_100 => ?_)
    · skip
      have q1 : (P_most B sc).1 = none := by
        rcases P_most_inv B sc with e | ⟨j, h1, e, h2⟩
        · rw [e]
        · exact absurd (show nI j < 0 by rw [e] at c_100; exact c_100) (nI_pos (by omega))
      have q2 : ¬ ((P_most B sc).1 ≠ none ∨ P_next B sc sc 0 = none) := fun z => z.elim (fun z => z q1) (fun z => P_next_some s8.1 hz 0 (by rw [Nat.zero_mod]; exact z))
      have q9 : P_choose B sc = (P_next (sC B (u1 B.1 6 (nI (M_seed (B.1 6))))) sc sc (M_seed (B.1 6) % sc), (sC B (u1 B.1 6 (nI (M_seed (B.1 6)))))) := by unfold P_choose; rw [if_neg q2]
      refine g_aload_n (pc := 105) d_LW_chosen_105 rfl 3 rfl ?_
      refine g_th0 (pc := 106) d_LW_chosen_106 fl_LW_30 HL ?_
      refine g_bipush (pc := 109) (v := 6) d_LW_chosen_109 (by decide) ?_
      refine g_ldc2 (pc := 111) d_LW_chosen_111 co_LW_161 ?_
      refine g_aload_n (pc := 114) d_LW_chosen_114 rfl 3 rfl ?_
      refine g_th0 (pc := 115) d_LW_chosen_115 fl_LW_30 HL ?_
      refine g_bipush (pc := 118) (v := 6) d_LW_chosen_118 (by decide) ?_
      refine g_thl (pc := 120) (j := 6) d_LW_chosen_120 HL (by decide) ?_
      refine g_i2l (pc := 121) d_LW_chosen_121 ?_
      refine g_lmul (pc := 122) d_LW_chosen_122 ?_
      refine g_ldc2 (pc := 123) d_LW_chosen_123 co_LW_163 ?_
      refine g_ladd (pc := 126) d_LW_chosen_126 ?_
      refine g_ldc2 (pc := 127) d_LW_chosen_127 co_LW_165 ?_
      refine g_lrem (pc := 130) d_LW_chosen_130 (by decide) ?_
      refine g_l2i (pc := 131) d_LW_chosen_131 ?_
      refine g_top (y := nI (M_seed (B.1 6))) (by rw [show B.1 (hp 6) = nI sd from hsx, seed_L hsd, hsx]) ?_
      refine g_ths (pc := 132) (j := 6) d_LW_chosen_132 HL (by decide) ?_
      refine g_iconst (pc := 133) (v := 0) d_LW_chosen_133 (by decide) ?_
      refine g_istore (pc := 134) (lv' := [(4, .int (nI 0)), (2, .int (nI (P_cnt B sc))), (1, .int (oI (P_most B sc).1)), (3, .int (nI sc)), (0, .ref lb)]) d_LW_chosen_134 (by decide) rfl ?_
      have hc9 : P_cnt (sC B (u1 B.1 6 (nI (M_seed (B.1 6))))) sc = P_cnt B sc := P_cnt_seed B _ sc
      obtain ⟨r, hr⟩ : ∃ r, P_next (sC B (u1 B.1 6 (nI (M_seed (B.1 6))))) sc sc (M_seed (B.1 6) % sc) = some r := by
        cases e : P_next (sC B (u1 B.1 6 (nI (M_seed (B.1 6))))) sc sc (M_seed (B.1 6) % sc) with
        | none => exact absurd e (P_next_some s8.1 (by rw [hc9]; exact hz) _)
        | some r => exact ⟨r, rfl⟩
      refine g_perm [0, 3, 4] rfl ?_
      exact lp_LW_chosen2 (B := (sC B (u1 B.1 6 (nI (M_seed (B.1 6)))))) HL (M_seed_lt (B.1 6)) rfl r hr ⟨by rw [q9, hr]; rfl, by rw [q9]⟩ (sc + 1) 0 (by omega) (by omega) (by rw [Nat.sub_zero, Nat.add_zero]; exact hr)
    · skip
      have q1 : (P_most B sc).1 ≠ none := fun z => c_100 (by rw [z]; decide)
      have q9 : P_choose B sc = ((P_most B sc).1, B) := by unfold P_choose; rw [if_pos (Or.inl q1)]
      refine g_iload_n (pc := 103) d_LW_chosen_103 rfl 1 rfl ?_
      refine g_iret (pc := 104) d_LW_chosen_104 rfl ?_
      rw [q9]
      exact ⟨rfl, rfl⟩
