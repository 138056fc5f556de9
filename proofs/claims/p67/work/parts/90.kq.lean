/-! THE LAW: foretold -/
theorem sent_cnt {nw sc : Nat} : ∀ (n m : Nat) (B : Bu), (P_sent nw sc n (m, B)).2 = (P_sent nw sc n (0, B)).2
  | 0, _, _ => rfl
  | n + 1, m, B => by
    rcases e : (P_choose B sc).1 with _ | j
    · rw [P_sent_n e, P_sent_n e, sent_cnt n m, sent_cnt n 0]
    · rw [P_sent_y e, P_sent_y e, sent_cnt n (m + 1), sent_cnt n (0 + 1)]
theorem day_cnt {nw sc ni m : Nat} {B : Bu} : (P_day nw sc ni (m, B)).2 = (P_day nw sc ni (0, B)).2 := sent_cnt ni m _
/-- n days later -/
def P_on (nw sc ni : Nat) : Nat → Bu → Bu
  | 0, B => B
  | n + 1, B => (P_day nw sc ni (0, P_on nw sc ni n B)).2
theorem P_on_f {nw sc ni : Nat} : ∀ (n : Nat) (B : Bu), P_on nw sc ni n (P_day nw sc ni (0, B)).2 = P_on nw sc ni (n + 1) B
  | 0, _ => rfl
  | n + 1, B => by rw [P_on, P_on_f n B]; rfl
theorem P_pass_on {nw sc ni : Nat} : ∀ (n m : Nat) (B : Bu), (P_pass nw sc ni n (m, B)).2 = P_on nw sc ni n B
  | 0, _, _ => rfl
  | n + 1, m, B => by
    rw [P_pass]
    have e : P_day nw sc ni (m, B) = ((P_day nw sc ni (m, B)).1, (P_day nw sc ni (0, B)).2) := Prod.ext rfl day_cnt
    rw [e, P_pass_on n, P_on_f]
theorem nI_nm1 {a : Nat} (h : a < 2 ^ 31) : ¬ nI a = -1 := fun z => nI_pos h (by rw [z]; decide)
theorem closed_s {nw sc ni i : Nat} : ∀ (n d : Nat) (B : Bu), d + n < 1000000 → Q_closed nw sc ni i (n + 1) d B = if Q_closed nw sc ni i n d B = -1 then (if (P_on nw sc ni n B).2.2 i 12 = 0 then nI (d + n) else -1) else Q_closed nw sc ni i n d B
  | 0, d, B, h => by
    rw [Q_closed, Q_closed, Q_closed, if_pos rfl]
    rfl
  | n + 1, d, B, h => by
    have e1 : Q_closed nw sc ni i (n + 1 + 1) d B = if B.2.2 i 12 = 0 then nI d else Q_closed nw sc ni i (n + 1) (d + 1) (P_day nw sc ni (0, B)).2 := rfl
    have e2 : Q_closed nw sc ni i (n + 1) d B = if B.2.2 i 12 = 0 then nI d else Q_closed nw sc ni i n (d + 1) (P_day nw sc ni (0, B)).2 := rfl
    rw [e1, e2]
    by_cases c : B.2.2 i 12 = 0
    · rw [if_pos c, if_pos c, if_neg (nI_nm1 (by omega))]
    · rw [if_neg c, if_neg c, closed_s n (d + 1) _ (by omega), P_on_f, show d + 1 + n = d + (n + 1) by omega]
theorem closed_e {nw sc ni i n d : Nat} {B : Bu} : ∀ m, d + n + m < 1000000 → (¬ Q_closed nw sc ni i n d B = -1 ∧ Q_closed nw sc ni i (n + m) d B = Q_closed nw sc ni i n d B) ∨ (Q_closed nw sc ni i n d B = -1 ∧ (Q_closed nw sc ni i (n + m) d B = -1 ∨ ∃ e, d + n ≤ e ∧ e < d + n + m ∧ Q_closed nw sc ni i (n + m) d B = nI e))
  | 0, _ => by
    by_cases c : Q_closed nw sc ni i n d B = -1
    · exact Or.inr ⟨c, Or.inl c⟩
    · exact Or.inl ⟨c, rfl⟩
  | m + 1, h => by
    have s := closed_s (nw := nw) (sc := sc) (ni := ni) (i := i) (n + m) d B (by omega)
    rw [show n + (m + 1) = n + m + 1 by omega]
    rcases closed_e (nw := nw) (sc := sc) (ni := ni) (i := i) (n := n) (d := d) (B := B) m (by omega) with ⟨c, e⟩ | ⟨c, e | ⟨x, x1, x2, e⟩⟩
    · exact Or.inl ⟨c, by rw [s, e, if_neg c]⟩
    · refine Or.inr ⟨c, ?_⟩
      rw [s, if_pos e]
      split
      · exact Or.inr ⟨d + (n + m), by omega, by omega, rfl⟩
      · exact Or.inl rfl
    · refine Or.inr ⟨c, Or.inr ⟨x, x1, by omega, ?_⟩⟩
      rw [s, e, if_neg (nI_nm1 (by omega))]
theorem closed_v {nw sc ni i : Nat} : ∀ (n d : Nat) (B : Bu), d + n < 1000000 → Q_closed nw sc ni i n d B = -1 ∨ ∃ e, e < d + n ∧ Q_closed nw sc ni i n d B = nI e
  | 0, _, _, _ => Or.inl rfl
  | n + 1, d, B, h => by
    rw [Q_closed]
    split
    · exact Or.inr ⟨d, by omega, rfl⟩
    · rcases closed_v n (d + 1) _ (by omega) with e | ⟨x, x1, e⟩
      · exact Or.inl e
      · exact Or.inr ⟨x, by omega, e⟩
theorem Q_purse_on {nw sc ni i n : Nat} {L B : Bu} (J : Jq nw sc L B) (h0 : 0 < sc) (hi : i < sc) : Q_purse B nw sc ni i n = (P_on nw sc ni n L).2.2 i 0 := by
  unfold Q_purse
  rw [← (Jq.pass h0 (ni := ni) n 0 _ _ J).2.2.2 i hi 0 (by decide), P_pass_on]
theorem k99 {nw sc ni i : Nat} {L : Bu} (cn : ¬ Q_closed nw sc ni i (25 + 1) 0 L = -1) : Q_closed nw sc ni i 201 0 L = Q_closed nw sc ni i (25 + 1) 0 L := by
  rcases closed_e (nw := nw) (sc := sc) (ni := ni) (i := i) (n := 25 + 1) (d := 0) (B := L) 175 (by decide) with ⟨c, e⟩ | ⟨c, e⟩
  · exact e
  · exact absurd c cn
theorem k114 {nw sc ni i : Nat} {L : Bu} (cn : Q_closed nw sc ni i (25 + 1) 0 L = -1) (hx : ¬ Q_closed nw sc ni i 201 0 L = -1) : ¬ Q_closed nw sc ni i 201 0 L ≤ 25 := by
  rcases closed_e (nw := nw) (sc := sc) (ni := ni) (i := i) (n := 25 + 1) (d := 0) (B := L) 175 (by decide) with ⟨c, e⟩ | ⟨c, e | ⟨x, x1, x2, e⟩⟩
  · exact absurd cn c
  · exact absurd e hx
  · rw [show (201 : Nat) = 25 + 1 + 175 from rfl, e]
    exact fun z => absurd ((nI_leI9 (a := x) (b := 25) (by omega) (by decide)).mp z) (by omega)
set_option maxRecDepth 20000 in
theorem lp_fo2 {E : En} {h : Hp} {A γ : Nat → Nat} {n nw sc ni T i : Nat} {L B : Bu} (hi : i < sc) (W : WS h A γ n nw sc (P_on nw sc ni 25 L) B) (p : PB nw sc ni (T + 25) (P_on nw sc ni 25 L) B) : G E m_LW_foretold 81 [(5, .int (Q_closed nw sc ni i (25 + 1) 0 L)), (4, .int (Q_closed nw sc ni i 201 0 L)), (3, .int ((P_on nw sc ni 25 L).2.2 i 0)), (0, .ref (A 22)), (1, .ref (A 23)), (2, .int (nI i))] [] h 0 0 (fun v h9 => v = some (.int 1) ∧ ∃ γ' L' B', WS h9 A γ' n nw sc L' B' ∧ PB nw sc ni (T + 25) L' B') noX := by
  obtain ⟨J, hG, -⟩ := id p
  refine g_aload_n (pc := 81) d_LW_foretold_81 rfl 3 rfl ?_
  refine g_iload_n (pc := 82) d_LW_foretold_82 rfl 5 rfl ?_
  refine g_cV1 (pc := 83) (ci := 0) (As := [.int _]) d_LW_foretold_83 rfl mv_HS_purse st_LW_foretold_215 rfl rfl (by decide) rfl rfl (Nat.le_of_ble_eq_true rfl) W.kx (wg_HS_purse W hG hi) ?_
  refine g_top (y := (P_on nw sc ni 25 L).2.2 i 0) (J.2.2 i hi 0 (by decide)).symm ?_
  refine g_iload_n (pc := 86) d_LW_foretold_86 rfl 2 rfl ?_
  refine g_icmp_ne (pc := 87) (tgt := 121) d_LW_foretold_87 (by decide) (fun c_87 => ?_) (fun c_87 => ?_)
  · exact absurd rfl c_87
  · skip
    refine g_iload (pc := 90) d_LW_foretold_90 0 rfl ?_
    refine g_if_lt (pc := 92) (tgt := 105) d_LW_foretold_92 (by decide) (fun c_92 => ?_) (fun c_92 => ?_)
    · skip
      have cn : Q_closed nw sc ni i (25 + 1) 0 L = -1 := by
        rcases closed_v (nw := nw) (sc := sc) (ni := ni) (i := i) (25 + 1) 0 L (by decide) with e | ⟨e, e1, e2⟩
        · exact e
        · exact absurd (show nI e < 0 by rw [← e2]; exact c_92) (nI_pos (by omega))
      refine g_iload (pc := 105) d_LW_foretold_105 1 rfl ?_
      refine g_if_lt (pc := 107) (tgt := 117) d_LW_foretold_107 (by decide) (fun c_107 => ?_) (fun c_107 => ?_)
      · skip
        refine g_iconst (pc := 117) (v := 1) d_LW_foretold_117 (by decide) ?_
        refine g_goto (pc := 118) (tgt := 122) d_LW_foretold_118 (by decide) ?_
        refine g_zret (pc := 122) d_LW_foretold_122 rfl rfl ?_
        exact ⟨rfl, γ, _, B, W, p⟩
      · skip
        have hx : ¬ Q_closed nw sc ni i 201 0 L = -1 := fun z => c_107 (by rw [z]; decide)
        refine g_iload (pc := 110) d_LW_foretold_110 1 rfl ?_
        refine g_bipush (pc := 112) (v := 25) d_LW_foretold_112 (by decide) ?_
        refine g_icmp_le (pc := 114) (tgt := 121) d_LW_foretold_114 (by decide) (fun c_114 => ?_) (fun c_114 => ?_)
        · exact absurd c_114 (k114 cn hx)
        · skip
          refine g_iconst (pc := 117) (v := 1) d_LW_foretold_117 (by decide) ?_
          refine g_goto (pc := 118) (tgt := 122) d_LW_foretold_118 (by decide) ?_
          refine g_zret (pc := 122) d_LW_foretold_122 rfl rfl ?_
          exact ⟨rfl, γ, _, B, W, p⟩
    · skip
      have cn : ¬ Q_closed nw sc ni i (25 + 1) 0 L = -1 := fun z => c_92 (by rw [z]; decide)
      refine g_iload (pc := 95) d_LW_foretold_95 1 rfl ?_
      refine g_iload (pc := 97) d_LW_foretold_97 0 rfl ?_
      refine g_icmp_ne (pc := 99) (tgt := 121) d_LW_foretold_99 (by decide) (fun c_99 => ?_) (fun c_99 => ?_)
      · exact absurd (k99 cn) c_99
      · skip
        refine g_goto (pc := 102) (tgt := 117) d_LW_foretold_102 (by decide) ?_
        refine g_iconst (pc := 117) (v := 1) d_LW_foretold_117 (by decide) ?_
        refine g_goto (pc := 118) (tgt := 122) d_LW_foretold_118 (by decide) ?_
        refine g_zret (pc := 122) d_LW_foretold_122 rfl rfl ?_
        exact ⟨rfl, γ, _, B, W, p⟩
set_option maxRecDepth 20000 in
theorem lp_fo1 {E : En} {A : Nat → Nat} {n nw sc ni T i : Nat} {L : Bu} (hi : i < sc) (hT : T ≤ 99000) : ∀ (d q : Nat) (h : Hp) (γ : Nat → Nat) (B : Bu), q ≤ 25 → 25 - q < d → WS h A γ n nw sc (P_on nw sc ni q L) B → PB nw sc ni (T + q) (P_on nw sc ni q L) B → G E m_LW_foretold 37 [(6, .int (nI (q + 1))), (5, .int (Q_closed nw sc ni i (q + 1) 0 L)), (4, .int (Q_closed nw sc ni i 201 0 L)), (3, .int ((P_on nw sc ni 25 L).2.2 i 0)), (0, .ref (A 22)), (1, .ref (A 23)), (2, .int (nI i))] [] h (12 * (25 - q)) (164 * (25 - q)) (fun v h9 => v = some (.int 1) ∧ ∃ γ' L' B', WS h9 A γ' n nw sc L' B' ∧ PB nw sc ni (T + 25) L' B') noX := by
  intro d
  induction d with
  | zero => intros; omega
  | succ d ih =>
    intro q h γ B hq hd W p
    have cs := closed_s (nw := nw) (sc := sc) (ni := ni) (i := i) (q + 1) 0 L (by omega)
    rw [Nat.zero_add] at cs
    refine g_iload (pc := 37) d_LW_foretold_37 0 rfl ?_
    refine g_bipush (pc := 39) (v := 25) d_LW_foretold_39 (by decide) ?_
    refine g_top (y := nI 25) rfl ?_
    refine g_icmp_gt (pc := 41) (tgt := 81) d_LW_foretold_41 (by decide) (fun c_41 => ?_) (fun c_41 => ?_)
    · skip
      have eq9 : q = 25 := by
        rcases Nat.lt_or_ge q 25 with z | z
        · exact absurd c_41 (Int32.not_lt.mpr ((nI_leI9 (by omega) (by decide)).mpr (by omega)))
        · omega
      subst eq9
      refine g_perm [1, 2, 3, 4, 5, 6] rfl ?_
      exact lp_fo2 hi W p
    · skip
      have hq9 : q < 25 := by
        have z := (nI_leI9 (by omega) (by decide)).mp (Int32.not_lt.mp c_41)
        omega
      refine g_aload_n (pc := 44) d_LW_foretold_44 rfl 4 rfl ?_
      refine g_aload_n (pc := 45) d_LW_foretold_45 rfl 5 rfl ?_
      refine G.mono (k := 12 * (25 - (q + 1)) + 12) (n := 164 * (25 - (q + 1)) + 164) (by omega) (by omega) ?_
      refine g_callS (k := 12 * (25 - (q + 1))) (n := 164 * (25 - (q + 1))) (pc := 46) (As := [.ref _, .ref _]) d_LW_foretold_46 rfl ms_LW_day st_LW_foretold_289 rfl rfl (Nat.le_of_ble_eq_true rfl) (cl_LW_day W p (by omega)) (fun _ _ z => z.elim) (fun v h4 hv => ?_)
      obtain ⟨rfl, γ4, W4⟩ := hv
      have p4 := (PB_day p (by omega)).1
      have HL := W4.ok
      refine g_h W4.eq.symm ?_
      refine g_if_ne (pc := 49) (tgt := 54) d_LW_foretold_49 (by decide) (fun c_49 => ?_) (fun c_49 => ?_)
      · skip
        refine g_iload (pc := 54) d_LW_foretold_54 1 rfl ?_
        refine g_if_ge (pc := 56) (tgt := 75) d_LW_foretold_56 (by decide) (fun c_56 => ?_) (fun c_56 => ?_)
        · skip
          have e5 : Q_closed nw sc ni i (q + 1 + 1) 0 L = Q_closed nw sc ni i (q + 1) 0 L := by
            rw [cs, if_neg (fun z => absurd (show (0 : Int32) ≤ -1 by rw [← z]; exact c_56) (by decide))]
          obtain ⟨x_1, hx_1⟩ : ∃ y : Int32, y = (nI (q + 1)) + 1 := ⟨_, rfl⟩
          refine g_iinc (pc := 75) (w := 0) (v := x_1) (lv' := [(6, .int x_1), (5, .int (Q_closed nw sc ni i (q + 1) 0 L)), (4, .int (Q_closed nw sc ni i 201 0 L)), (3, .int ((P_on nw sc ni 25 L).2.2 i 0)), (0, .ref (A 22)), (1, .ref (A 23)), (2, .int (nI i))]) d_LW_foretold_75 rfl (by rw [hx_1]; rfl) (by decide) rfl ?_
          refine g_goto (pc := 78) (tgt := 37) d_LW_foretold_78 (by decide) ?_
          obtain rfl : x_1 = nI (q + 1 + 1) := by rw [hx_1]; exact nI_1 _
          refine g_h W4.eq ?_
          have z := ih (q + 1) h4 γ4 _ (by omega) (by omega) W4 p4
          rw [e5] at z
          refine g_perm [0, 1, 2, 3, 4, 5, 6] rfl ?_
          exact z
        · skip
          have cn : Q_closed nw sc ni i (q + 1) 0 L = -1 := by
            rcases closed_v (nw := nw) (sc := sc) (ni := ni) (i := i) (q + 1) 0 L (by omega) with e | ⟨e, e1, e2⟩
            · exact e
            · exact absurd (show (0 : Int32) ≤ nI e from Int32.not_lt.mp (nI_pos (by omega))) (by rw [← e2]; exact c_56)
          refine g_aload_n (pc := 59) d_LW_foretold_59 rfl 5 rfl ?_
          refine g_th2 (pc := 60) d_LW_foretold_60 fl_LW_45 HL ?_
          refine g_iload_n (pc := 63) d_LW_foretold_63 rfl 6 rfl ?_
          refine g_tsl (pc := 64) (i := i) d_LW_foretold_64 HL (by first | assumption | omega) ?_
          refine g_ttI (pc := 65) (f := 12) rfl d_LW_foretold_65 fl_LW_157 HL (by first | assumption | omega) ?_
          refine g_if_ne (pc := 68) (tgt := 75) d_LW_foretold_68 (by decide) (fun c_68 => ?_) (fun c_68 => ?_)
          · skip
            have e5 : Q_closed nw sc ni i (q + 1 + 1) 0 L = Q_closed nw sc ni i (q + 1) 0 L := by
              rw [cs, if_pos cn, if_neg (show ¬ (P_on nw sc ni (q + 1) L).2.2 i 12 = 0 from c_68), cn]
            obtain ⟨x_2, hx_2⟩ : ∃ y : Int32, y = (nI (q + 1)) + 1 := ⟨_, rfl⟩
            refine g_iinc (pc := 75) (w := 0) (v := x_2) (lv' := [(6, .int x_2), (5, .int (Q_closed nw sc ni i (q + 1) 0 L)), (4, .int (Q_closed nw sc ni i 201 0 L)), (3, .int ((P_on nw sc ni 25 L).2.2 i 0)), (0, .ref (A 22)), (1, .ref (A 23)), (2, .int (nI i))]) d_LW_foretold_75 rfl (by rw [hx_2]; rfl) (by decide) rfl ?_
            refine g_goto (pc := 78) (tgt := 37) d_LW_foretold_78 (by decide) ?_
            obtain rfl : x_2 = nI (q + 1 + 1) := by rw [hx_2]; exact nI_1 _
            refine g_h W4.eq ?_
            have z := ih (q + 1) h4 γ4 _ (by omega) (by omega) W4 p4
            rw [e5] at z
            refine g_perm [0, 1, 2, 3, 4, 5, 6] rfl ?_
            exact z
          · skip
            have e5 : Q_closed nw sc ni i (q + 1 + 1) 0 L = nI (q + 1) := by
              rw [cs, if_pos cn, if_pos (show (P_on nw sc ni (q + 1) L).2.2 i 12 = 0 from c_68)]
            refine g_iload (pc := 71) d_LW_foretold_71 0 rfl ?_
            refine g_istore (pc := 73) (lv' := [(5, .int (nI (q + 1))), (6, .int (nI (q + 1))), (4, .int (Q_closed nw sc ni i 201 0 L)), (3, .int ((P_on nw sc ni 25 L).2.2 i 0)), (0, .ref (A 22)), (1, .ref (A 23)), (2, .int (nI i))]) d_LW_foretold_73 (by decide) rfl ?_
            obtain ⟨x_3, hx_3⟩ : ∃ y : Int32, y = (nI (q + 1)) + 1 := ⟨_, rfl⟩
            refine g_iinc (pc := 75) (w := 1) (v := x_3) (lv' := [(6, .int x_3), (5, .int (nI (q + 1))), (4, .int (Q_closed nw sc ni i 201 0 L)), (3, .int ((P_on nw sc ni 25 L).2.2 i 0)), (0, .ref (A 22)), (1, .ref (A 23)), (2, .int (nI i))]) d_LW_foretold_75 rfl (by rw [hx_3]; rfl) (by decide) rfl ?_
            refine g_goto (pc := 78) (tgt := 37) d_LW_foretold_78 (by decide) ?_
            obtain rfl : x_3 = nI (q + 1 + 1) := by rw [hx_3]; exact nI_1 _
            refine g_h W4.eq ?_
            have z := ih (q + 1) h4 γ4 _ (by omega) (by omega) W4 p4
            rw [e5] at z
            refine g_perm [0, 1, 2, 3, 4, 5, 6] rfl ?_
            exact z
      · exact absurd c_49 (by decide)
set_option maxRecDepth 20000 in
theorem cl_LW_foretold {E : En} {h : Hp} {A γ : Nat → Nat} {n nw sc ni T i : Nat} {L B : Bu} (hi : i < sc) (hT : T ≤ 99000) (W : WS h A γ n nw sc L B) (p : PB nw sc ni T L B) : CT E m_LW_foretold [.ref (A 22), .ref (A 23), .int (nI i)] h 300 4100 (fun v h9 => v = some (.int 1) ∧ ∃ γ' L' B', WS h9 A γ' n nw sc L' B' ∧ PB nw sc ni (T + 25) L' B') noX := by
  refine ct_of rfl (by decide +kernel) (Nat.le_of_ble_eq_true rfl) ?_
  show G E m_LW_foretold 0 [(0, .ref (A 22)), (1, .ref (A 23)), (2, .int (nI i))] [] h 300 4100 _ noX
  obtain ⟨J, hG, -⟩ := id p
  have s8 := W.ok.s8
  refine g_aload_n (pc := 0) d_LW_foretold_0 rfl 0 rfl ?_
  refine g_iload_n (pc := 1) d_LW_foretold_1 rfl 2 rfl ?_
  refine g_bipush (pc := 2) (v := 25) d_LW_foretold_2 (by decide) ?_
  refine g_top (y := nI 25) rfl ?_
  refine g_callV (pc := 4) (kz := 0) (nz := 0) (ci := 0) (As := [.int _, .int _]) d_LW_foretold_4 rfl mv_HS_purseAfter st_LW_foretold_325 rfl rfl (by decide) W.kx rfl rfl (Nat.le_of_ble_eq_true rfl) (wt_HS_purseAfter (days := 25) W hG hi (by decide) (by decide) (by decide)) (fun _ _ z => z.elim) (fun v h4 hv => ?_)
  obtain ⟨rfl, W4, f4⟩ := hv
  refine g_top (y := (P_on nw sc ni 25 L).2.2 i 0) (Q_purse_on J s8.1 hi) ?_
  refine g_istore_n (pc := 7) (lv' := [(3, .int ((P_on nw sc ni 25 L).2.2 i 0)), (0, .ref (A 22)), (1, .ref (A 23)), (2, .int (nI i))]) d_LW_foretold_7 rfl (by decide) rfl ?_
  refine g_aload_n (pc := 8) d_LW_foretold_8 rfl 1 rfl ?_
  refine g_iload_n (pc := 9) d_LW_foretold_9 rfl 3 rfl ?_
  refine g_callV (pc := 10) (kz := 0) (nz := 0) (ci := 0) (As := [.int _]) d_LW_foretold_10 rfl mv_HS_daysUntilClosed st_LW_foretold_328 rfl rfl (by decide) W4.kx rfl rfl (Nat.le_of_ble_eq_true rfl) (wt_HS_daysUntilClosed W4 hG hi (by omega)) (fun _ _ z => z.elim) (fun v h5 hv => ?_)
  obtain ⟨rfl, W5, f5⟩ := hv
  refine g_top (y := Q_closed nw sc ni i 201 0 L) (Q_closed_J s8.1 hi 201 0 _ _ J).symm ?_
  have HL := W5.ok
  refine g_h W5.eq.symm ?_
  refine g_istore (pc := 13) (lv' := [(4, .int (Q_closed nw sc ni i 201 0 L)), (3, .int ((P_on nw sc ni 25 L).2.2 i 0)), (0, .ref (A 22)), (1, .ref (A 23)), (2, .int (nI i))]) d_LW_foretold_13 (by decide) rfl ?_
  refine g_aload_n (pc := 15) d_LW_foretold_15 rfl 3 rfl ?_
  refine g_th2 (pc := 16) d_LW_foretold_16 fl_LW_45 HL ?_
  refine g_iload_n (pc := 19) d_LW_foretold_19 rfl 4 rfl ?_
  refine g_tsl (pc := 20) (i := i) d_LW_foretold_20 HL (by first | assumption | omega) ?_
  refine g_ttI (pc := 21) (f := 12) rfl d_LW_foretold_21 fl_LW_157 HL (by first | assumption | omega) ?_
  refine g_if_eq (pc := 24) (tgt := 31) d_LW_foretold_24 (by decide) (fun c_24 => ?_) (fun c_24 => ?_)
  · skip
    have e5 : Q_closed nw sc ni i (0 + 1) 0 L = 0 := by rw [Q_closed]; exact if_pos c_24
    refine g_iconst (pc := 31) (v := 0) d_LW_foretold_31 (by decide) ?_
    refine g_top e5.symm ?_
    refine g_istore (pc := 32) (lv' := [(5, .int (Q_closed nw sc ni i (0 + 1) 0 L)), (4, .int (Q_closed nw sc ni i 201 0 L)), (3, .int ((P_on nw sc ni 25 L).2.2 i 0)), (0, .ref (A 22)), (1, .ref (A 23)), (2, .int (nI i))]) d_LW_foretold_32 (by decide) rfl ?_
    refine g_iconst (pc := 34) (v := 1) d_LW_foretold_34 (by decide) ?_
    refine g_istore (pc := 35) (lv' := [(6, .int (nI (0 + 1))), (5, .int (Q_closed nw sc ni i (0 + 1) 0 L)), (4, .int (Q_closed nw sc ni i 201 0 L)), (3, .int ((P_on nw sc ni 25 L).2.2 i 0)), (0, .ref (A 22)), (1, .ref (A 23)), (2, .int (nI i))]) d_LW_foretold_35 (by decide) rfl ?_
    refine g_perm [0, 1, 2, 3, 4, 5, 6] rfl ?_
    refine g_h W5.eq ?_
    exact G.mono (by decide) (by decide) (lp_fo1 (T := T) (ni := ni) (L := L) hi hT 26 0 h5 γ B (by decide) (by decide) W5 p)
  · skip
    have e5 : Q_closed nw sc ni i (0 + 1) 0 L = -1 := by rw [Q_closed]; exact if_neg c_24
    refine g_iconst (pc := 27) (v := (-1)) d_LW_foretold_27 (by decide) ?_
    refine g_goto (pc := 28) (tgt := 32) d_LW_foretold_28 (by decide) ?_
    refine g_top e5.symm ?_
    refine g_istore (pc := 32) (lv' := [(5, .int (Q_closed nw sc ni i (0 + 1) 0 L)), (4, .int (Q_closed nw sc ni i 201 0 L)), (3, .int ((P_on nw sc ni 25 L).2.2 i 0)), (0, .ref (A 22)), (1, .ref (A 23)), (2, .int (nI i))]) d_LW_foretold_32 (by decide) rfl ?_
    refine g_iconst (pc := 34) (v := 1) d_LW_foretold_34 (by decide) ?_
    refine g_istore (pc := 35) (lv' := [(6, .int (nI (0 + 1))), (5, .int (Q_closed nw sc ni i (0 + 1) 0 L)), (4, .int (Q_closed nw sc ni i 201 0 L)), (3, .int ((P_on nw sc ni 25 L).2.2 i 0)), (0, .ref (A 22)), (1, .ref (A 23)), (2, .int (nI i))]) d_LW_foretold_35 (by decide) rfl ?_
    refine g_perm [0, 1, 2, 3, 4, 5, 6] rfl ?_
    refine g_h W5.eq ?_
    exact G.mono (by decide) (by decide) (lp_fo1 (T := T) (ni := ni) (L := L) hi hT 26 0 h5 γ B (by decide) (by decide) W5 p)
