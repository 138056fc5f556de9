/-! THE LAW: a day; its own array of what was told -/
section
variable {h h1 h2 : Hp} {A A' γ γ' : Nat → Nat} {n m nw sc a : Nat} {L L' B B' F : Bu} {f : Nat → Int32}
theorem WS.less (W : WS h A γ n nw sc L B) (h1 : 27 + sc ≤ m) (h2 : m ≤ n) : WS h A γ m nw sc L B := ⟨h1, W.2.1.less (by omega) h2, W.2.2⟩
theorem WS.cong (W : WS h A γ n nw sc L B) (e : ∀ i, i < n → A' i = A i) : WS h A' γ n nw sc L B := by
  obtain ⟨w0, ⟨c0, c1, c2, c3, c4, c5⟩, ⟨k, nx, ci⟩, ⟨b, b1, b2⟩, v, a1, a2, a3, a4⟩ := W
  have eA : ∀ i, i < 23 → A' i = A i := fun i hi => e i (by omega)
  have eB : ∀ u, bA h A' u = bA h A u := fun u => by
    unfold bA
    rw [eA 22 (by decide), eA 13 (by decide), eA 11 (by decide)]
  refine ⟨w0, ⟨c0, ?_, ⟨fun i j hi hj z => ?_, fun i hi => ?_⟩, ⟨fun u b hu hub => c3.1 u b hu (by rw [← eB]; exact hub), fun u v b hu hv hub hvb => c3.2 u v b hu hv (by rw [← eB]; exact hub) (by rw [← eB]; exact hvb)⟩, by rw [eB]; exact c4, by rw [eB]; exact c5⟩, ⟨k, nx, ?_⟩, ⟨b, by rw [eA 22 (by decide)]; exact b1, b2⟩, by rw [e 23 (by omega)]; exact v, ?_⟩
  · unfold ShC
    rw [eA 22 (by decide), eA 14 (by decide), eA 15 (by decide), eA 12 (by decide), eA 11 (by decide), eA 9 (by decide), eA 21 (by decide), eA 17 (by decide), eA 16 (by decide), eA 18 (by decide), eA 19 (by decide), eA 20 (by decide), eA 13 (by decide), eA 10 (by decide)]
    exact c1
  · rw [e i hi.2, e j hj.2] at z; exact c2.1 i j hi hj z
  · rw [e i hi.2]; exact c2.2 i hi
  · unfold CI
    rw [eA 12 (by decide)]
    exact ci
  · unfold AL
    rw [e 23 (by omega), e 24 (by omega), e 25 (by omega), e 26 (by omega)]
    exact ⟨a1, a2, a3, fun i hi => by rw [e (27 + i) (by omega)]; exact a4 i hi⟩
theorem WS.add (W : WS h A γ n nw sc L B) (e : Ext h h2) (ha : hK h a = 0) (hk : hK h2 a ≠ 0) (h5 : hK h2 a ≠ 5) : WS h2 (u1 A n a) (γo h γ) (n + 1) nw sc L B := by
  obtain ⟨w0, c, ⟨k, nx, ci⟩, ⟨b, b1, b2⟩, -⟩ := id W
  obtain ⟨d1, d2, d3⟩ := c.add e ha hk h5
  have eA : ∀ i, i < n → u1 A n a i = A i := fun i hi => u1_ne (by omega)
  have fm : Fm h h2 A n := fun i hi _ => by
    obtain ⟨e1, e2, e3, e4, e5⟩ := e (A i) (c.2.2.1.2 i hi).1
    exact ⟨e1, e4, e5, e2⟩
  obtain ⟨v, a1, a2, a3, a4⟩ := LbOk.fm W fm
  refine ⟨by omega, d1, ⟨k, nx, ?_⟩, ⟨b, (d2 0 (by decide)).trans b1, (d3 0 b (by decide) b1).trans b2⟩, by rw [eA 23 (by omega)]; exact v, ?_⟩
  · unfold CI
    rw [eA 12 (by omega), (e (A 12) (c.2.2.1.2 12 (c.ix (by decide) (by decide))).1).1]
    exact ci
  · unfold AL
    rw [eA 23 (by omega), eA 24 (by omega), eA 25 (by omega), eA 26 (by omega)]
    exact ⟨a1, a2, a3, fun i hi => by rw [eA (27 + i) (by omega)]; exact a4 i hi⟩
theorem WS.drop (W : WS h (u1 A n a) γ (n + 1) nw sc L B) (hn : 27 + sc ≤ n) : WS h A γ n nw sc L B := (W.less hn (Nat.le_succ n)).cong (fun i hi => (u1_ne (by omega)).symm)
theorem WS.cell (W : WS h A γ n nw sc L B) (h1 : 27 + sc ≤ m) (h2 : m < n) : WS (sA h (A m) f) A γ n nw sc L B := by
  obtain ⟨w0, c, ⟨k, nx, ci⟩, ⟨b, b1, b2⟩, -⟩ := id W
  have F := c.2.2.1
  have im : Ix n m := ⟨by omega, h2⟩
  have fm : Fm h (sA h (A m) f) A (27 + sc) := fun i hi _ => ⟨if_neg (F.ne ⟨hi.1, by have := hi.2; omega⟩ im (by have := hi.2; omega)), rfl, rfl, rfl⟩
  refine ⟨w0, c.sh ⟨rfl, rfl, rfl⟩, ⟨k, nx, ?_⟩, ⟨b, b1, (vB_fix (h2 := sA h (A m) f) F (c.2.2.2.1.1 0 b (by decide) b1) ⟨rfl, rfl, rfl⟩ (fun q hq => if_neg (hq m im))).trans b2⟩, LbOk.fm (W.less (Nat.le_refl _) w0) fm⟩
  unfold CI
  rw [show hI (sA h (A m) f) (A 12) = hI h (A 12) from if_neg (F.ne (c.ix (by decide) (by decide)) im (by omega))]
  exact ci
end
/-- what a shop is told it gains -/
def P_told (sc : Nat) (L : Bu) (i : Nat) : Int32 := if L.2.2 i 12 = 0 then 0 else M_gain (P_begin sc L).1 ((P_begin sc L).2.2 i) (M_false ((P_begin sc L).2.2 i) ((P_begin sc L).1 9))
theorem wt_gain {E : En} {h : Hp} {A γ : Nat → Nat} {n nw sc ni U i : Nat} {L B : Bu} (W : WS h A γ n nw sc L B) (hG : Gd B nw sc ni U) (J : Jq nw sc L B) (hi : i < sc) : CT E m_HS_nextGain [.ref (A 22), .int (nI i)] h 0 0 (fun v h1 => v = some (.int (P_told sc L i)) ∧ WS h1 A γ n nw sc L B ∧ Fm h h1 A n) noX := by
  rcases (hG.2.2 i hi).1 with e | e
  · refine (wt_HS_nextGainC W hG hi e).mono (fun v h1 r => ?_) (fun _ _ x => x)
    obtain ⟨r1, r2⟩ := r
    exact ⟨by rw [r1]; unfold P_told; rw [if_pos ((J.2.2 i hi 12 (by decide)).trans e)], r2⟩
  · refine (wt_HS_nextGain W hG hi e).mono (fun v h1 r => ?_) (fun _ _ x => x)
    obtain ⟨r1, r2⟩ := r
    refine ⟨?_, r2⟩
    have e1 : Js (M_drift (L.2.2 i)) (M_drift (B.2.2 i)) := Js_u (J.2.2 i hi) (by rw [J.2.2 i hi 1 (by decide), J.2.2 i hi 3 (by decide)])
    have e2 : (P_begin sc L).2.2 i = M_drift (L.2.2 i) := if_pos hi
    have e3 : (P_begin sc L).1 = u1 L.1 9 (L.1 9 + 1) := rfl
    rw [r1]
    unfold P_told
    rw [if_neg (by rw [J.2.2 i hi 12 (by decide), e]; decide), e2, e3, u1_same, J.1 9 (by decide), M_false_J e1, M_gain_J (Jc_u J.1 rfl) e1]
theorem uses_t {s : Nat → Int32} {d : Int32} (h : s 10 < 0 ∨ s 7 < d - s 10) (hl : s 10 = -1 ∨ 0 ≤ s 10) : M_uses s d = true := by
  unfold M_uses
  rcases h with h | h
  · rcases hl with e | e
    · rw [decide_eq_true e]; rfl
    · exact absurd h (Int32.not_lt.mpr e)
  · rw [decide_eq_true h]; exact Bool.or_true _
theorem uses_f {s : Nat → Int32} {d : Int32} (h : ¬ s 10 < 0) (h2 : d - s 10 ≤ s 7) : M_uses s d = false := by
  unfold M_uses
  rw [decide_eq_false (fun e => h (by rw [e]; decide)), decide_eq_false (Int32.not_lt.mpr h2)]
  rfl

set_option maxRecDepth 20000 in
theorem lp_LW_day1 {E : En} {A γ : Nat → Nat} {m nw sc ni U k n : Nat} {L B : Bu} {x : Int32} {PP : Option Value → Hp → Prop} (hG : Gd B nw sc ni U) (J : Jq nw sc L B) (hl : Lt sc L) (hm : 27 + sc ≤ m)
    (kk : ∀ h, WS h A γ (m + 1) nw sc L B → (hK h (A m) = 20 ∧ hL h (A m) = sc ∧ ∀ j, j < sc → hI h (A m) j = P_told sc L j) → G E m_LW_day 97 [(2, .int (nI sc)), (3, .ref (A m)), (4, .int x), (0, .ref (A 22)), (1, .ref (A 23))] [] h k n PP noX) : ∀ (d i : Nat) (h : Hp), i ≤ sc → sc - i < d → WS h A γ (m + 1) nw sc L B → (hK h (A m) = 20 ∧ hL h (A m) = sc ∧ ∀ j, j < i → hI h (A m) j = P_told sc L j) → G E m_LW_day 19 [(5, .int (nI i)), (2, .int (nI sc)), (3, .ref (A m)), (4, .int x), (0, .ref (A 22)), (1, .ref (A 23))] [] h k n PP noX := by
  intro d
  induction d with
  | zero => intros; omega
  | succ d ih =>
    intro i h hi hd W T
    have s8 := W.ok.s8
    refine g_iload (pc := 19) d_LW_day_19 0 rfl ?_
    refine g_iload_n (pc := 21) d_LW_day_21 rfl 1 rfl ?_
    refine g_icmp_ge (pc := 22) (tgt := 97) d_LW_day_22 (by decide) (fun c_22 => ?_) (fun c_22 => ?_)
    · skip
      have eq9 : i = sc := by have := (nI_leI9 (a := sc) (b := i) (by omega) (by omega)).mp c_22; omega
      subst eq9
      refine g_perm [1, 2, 3, 4, 5] rfl ?_
      exact kk h W T
    · skip
      have hi9 : i < sc := Nat.lt_of_not_le (fun z => c_22 ((nI_leI9 (by omega) (by omega)).mpr z))
      refine g_aload_n (pc := 25) d_LW_day_25 rfl 2 rfl ?_
      refine g_iload (pc := 26) d_LW_day_26 0 rfl ?_
      refine g_aload_n (pc := 28) d_LW_day_28 rfl 4 rfl ?_
      refine g_iload (pc := 29) d_LW_day_29 0 rfl ?_
      refine g_callV (pc := 31) (kz := 0) (nz := 0) (ci := 0) (As := [.int _]) d_LW_day_31 rfl mv_HS_nextGain st_LW_day_170 rfl rfl (by decide) W.kx rfl rfl (Nat.le_of_ble_eq_true rfl) (wt_gain W hG J hi9) (fun _ _ z => z.elim) (fun v h1 hv => ?_)
      obtain ⟨rfl, W1, f1⟩ := hv
      obtain ⟨t1, t2, t3, -⟩ := f1 m ⟨by omega, Nat.lt_succ_self m⟩ (by omega)
      have kd1 : hK h1 (A m) = 20 := t2.trans T.1
      have ln1 : hL h1 (A m) = sc := t3.trans T.2.1
      refine g_iastoreX (pc := 34) (j := i) d_LW_day_34 kd1 (by rw [ln1]; exact hi9) (by rw [ln1]; omega) ?_
      have W2 : WS (sI h1 (A m) i (P_told sc L i)) A γ (m + 1) nw sc L B := by
        rw [sI_sA]; exact W1.cell hm (Nat.lt_succ_self m)
      have T2 : hK (sI h1 (A m) i (P_told sc L i)) (A m) = 20 ∧ hL (sI h1 (A m) i (P_told sc L i)) (A m) = sc ∧ ∀ j, j < i + 1 → hI (sI h1 (A m) i (P_told sc L i)) (A m) j = P_told sc L j := ⟨kd1, ln1, fun j hj => by
        rw [hI_sI]
        by_cases e : j = i
        · rw [if_pos ⟨rfl, e⟩, e]
        · rw [if_neg (fun z => e z.2), t1]; exact T.2.2 j (by omega)⟩
      clear T
      revert W2 T2
      generalize sI h1 (A m) i (P_told sc L i) = h2
      intro W2 T2
      have HL := W2.ok
      refine g_h W2.eq.symm ?_
      refine g_aload_n (pc := 35) d_LW_day_35 rfl 5 rfl ?_
      refine g_th2 (pc := 36) d_LW_day_36 fl_LW_45 HL ?_
      refine g_iload (pc := 39) d_LW_day_39 0 rfl ?_
      refine g_tsl (pc := 41) (i := i) d_LW_day_41 HL (by first | assumption | omega) ?_
      refine g_astore (pc := 42) (lv' := [(6, .ref (tw h2 (A 23) i)), (5, .int (nI i)), (2, .int (nI sc)), (3, .ref (A m)), (4, .int x), (0, .ref (A 22)), (1, .ref (A 23))]) d_LW_day_42 (by decide) rfl ?_
      refine g_aload_n (pc := 44) d_LW_day_44 rfl 5 rfl ?_
      refine g_iload (pc := 45) d_LW_day_45 1 rfl ?_
      refine g_cV1 (pc := 47) (ci := 0) (As := [.int _]) d_LW_day_47 rfl mv_HS_usesThumb st_LW_day_173 rfl rfl (by decide) rfl rfl (Nat.le_of_ble_eq_true rfl) (W2.law (L' := L)).kx (wg_HS_usesThumb (W2.law (L' := L)) hG hi9) ?_
      refine g_top (y := bI (M_uses (L.2.2 i) (L.1 9 + 1))) (by rw [M_uses_J (J.2.2 i hi9), J.1 9 (by decide)]) ?_
      refine g_aload (pc := 50) d_LW_day_50 0 rfl ?_
      refine g_ttI (pc := 52) (f := 10) rfl d_LW_day_52 fl_LW_141 HL (by first | assumption | omega) ?_
      refine g_if_lt (pc := 55) (tgt := 81) d_LW_day_55 (by decide) (fun c_55 => ?_) (fun c_55 => ?_)
      · skip
        have hu := uses_t (d := L.1 9 + 1) (Or.inl c_55) (hl i hi9)
        refine g_iconst (pc := 81) (v := 1) d_LW_day_81 (by decide) ?_
        refine g_goto (pc := 82) (tgt := 86) d_LW_day_82 (by decide) ?_
        refine g_top2 (y := 1) (by rw [hu]; rfl) ?_
        refine g_icmp_eq (pc := 86) (tgt := 91) d_LW_day_86 (by decide) (fun c_86 => ?_) (fun c_86 => ?_)
        · skip
          obtain ⟨x_1, hx_1⟩ : ∃ y : Int32, y = (nI i) + 1 := ⟨_, rfl⟩
          refine g_iinc (pc := 91) (w := 1) (v := x_1) (lv' := [(5, .int x_1), (6, .ref (tw h2 (A 23) i)), (2, .int (nI sc)), (3, .ref (A m)), (4, .int x), (0, .ref (A 22)), (1, .ref (A 23))]) d_LW_day_91 rfl (by rw [hx_1]; rfl) (by decide) rfl ?_
          refine g_goto (pc := 94) (tgt := 19) d_LW_day_94 (by decide) ?_
          obtain rfl : x_1 = nI (i + 1) := by rw [hx_1]; exact nI_1 _
          refine g_h W2.eq ?_
          refine g_perm [0, 2, 3, 4, 5, 6] rfl ?_
          exact ih (i + 1) h2 (by omega) (by omega) W2 T2
        · exact absurd rfl c_86
      · skip
        refine g_aload_n (pc := 58) d_LW_day_58 rfl 6 rfl ?_
        refine g_th0 (pc := 59) d_LW_day_59 fl_LW_30 HL ?_
        refine g_bipush (pc := 62) (v := 7) d_LW_day_62 (by decide) ?_
        refine g_thl (pc := 64) (j := 7) d_LW_day_64 HL (by decide) ?_
        refine g_iconst (pc := 65) (v := 1) d_LW_day_65 (by decide) ?_
        refine g_iadd (pc := 66) d_LW_day_66 ?_
        refine g_aload (pc := 67) d_LW_day_67 0 rfl ?_
        refine g_ttI (pc := 69) (f := 10) rfl d_LW_day_69 fl_LW_141 HL (by first | assumption | omega) ?_
        refine g_isub (pc := 72) d_LW_day_72 ?_
        refine g_aload (pc := 73) d_LW_day_73 0 rfl ?_
        refine g_ttI (pc := 75) (f := 7) rfl d_LW_day_75 fl_LW_93 HL (by first | assumption | omega) ?_
        refine g_icmp_le (pc := 78) (tgt := 85) d_LW_day_78 (by decide) (fun c_78 => ?_) (fun c_78 => ?_)
        · skip
          have hu := uses_f (d := L.1 9 + 1) c_55 c_78
          refine g_iconst (pc := 85) (v := 0) d_LW_day_85 (by decide) ?_
          refine g_top2 (y := 0) (by rw [hu]; rfl) ?_
          refine g_icmp_eq (pc := 86) (tgt := 91) d_LW_day_86 (by decide) (fun c_86 => ?_) (fun c_86 => ?_)
          · skip
            obtain ⟨x_2, hx_2⟩ : ∃ y : Int32, y = (nI i) + 1 := ⟨_, rfl⟩
            refine g_iinc (pc := 91) (w := 1) (v := x_2) (lv' := [(5, .int x_2), (6, .ref (tw h2 (A 23) i)), (2, .int (nI sc)), (3, .ref (A m)), (4, .int x), (0, .ref (A 22)), (1, .ref (A 23))]) d_LW_day_91 rfl (by rw [hx_2]; rfl) (by decide) rfl ?_
            refine g_goto (pc := 94) (tgt := 19) d_LW_day_94 (by decide) ?_
            obtain rfl : x_2 = nI (i + 1) := by rw [hx_2]; exact nI_1 _
            refine g_h W2.eq ?_
            refine g_perm [0, 2, 3, 4, 5, 6] rfl ?_
            exact ih (i + 1) h2 (by omega) (by omega) W2 T2
          · exact absurd rfl c_86
        · skip
          have hu := uses_t (d := L.1 9 + 1) (Or.inr (Int32.not_le.mp c_78)) (hl i hi9)
          refine g_iconst (pc := 81) (v := 1) d_LW_day_81 (by decide) ?_
          refine g_goto (pc := 82) (tgt := 86) d_LW_day_82 (by decide) ?_
          refine g_top2 (y := 1) (by rw [hu]; rfl) ?_
          refine g_icmp_eq (pc := 86) (tgt := 91) d_LW_day_86 (by decide) (fun c_86 => ?_) (fun c_86 => ?_)
          · skip
            obtain ⟨x_3, hx_3⟩ : ∃ y : Int32, y = (nI i) + 1 := ⟨_, rfl⟩
            refine g_iinc (pc := 91) (w := 1) (v := x_3) (lv' := [(5, .int x_3), (6, .ref (tw h2 (A 23) i)), (2, .int (nI sc)), (3, .ref (A m)), (4, .int x), (0, .ref (A 22)), (1, .ref (A 23))]) d_LW_day_91 rfl (by rw [hx_3]; rfl) (by decide) rfl ?_
            refine g_goto (pc := 94) (tgt := 19) d_LW_day_94 (by decide) ?_
            obtain rfl : x_3 = nI (i + 1) := by rw [hx_3]; exact nI_1 _
            refine g_h W2.eq ?_
            refine g_perm [0, 2, 3, 4, 5, 6] rfl ?_
            exact ih (i + 1) h2 (by omega) (by omega) W2 T2
          · exact absurd rfl c_86
theorem P_drift_s {B : Bu} {i : Nat} : sS (P_drift i B) i (M_drift ((P_drift i B).2.2 i)) = P_drift (i + 1) B := by
  refine Prod.ext rfl (Prod.ext rfl (funext fun q => ?_))
  show u1 (P_drift i B).2.2 i (M_drift ((P_drift i B).2.2 i)) q = if q < i + 1 then M_drift (B.2.2 q) else B.2.2 q
  have e : ∀ q, (P_drift i B).2.2 q = if q < i then M_drift (B.2.2 q) else B.2.2 q := fun _ => rfl
  rw [u1_at, e, e]
  by_cases h1 : q = i
  · rw [if_pos h1, h1, if_neg (Nat.lt_irrefl i), if_pos (Nat.lt_succ_self i)]
  · rw [if_neg h1]
    by_cases h2 : q < i
    · rw [if_pos h2, if_pos (by omega)]
    · rw [if_neg h2, if_neg (by omega)]
theorem P_trade_s {B : Bu} {i : Nat} : sS (P_trade i B) i (M_trade B.1 (B.2.2 i)) = P_trade (i + 1) B := by
  refine Prod.ext rfl (Prod.ext rfl (funext fun q => ?_))
  show u1 (P_trade i B).2.2 i (M_trade B.1 (B.2.2 i)) q = if q < i + 1 then M_trade B.1 (B.2.2 q) else B.2.2 q
  have e : ∀ q, (P_trade i B).2.2 q = if q < i then M_trade B.1 (B.2.2 q) else B.2.2 q := fun _ => rfl
  rw [u1_at, e]
  by_cases h1 : q = i
  · rw [if_pos h1, h1, if_pos (Nat.lt_succ_self i)]
  · rw [if_neg h1]
    by_cases h2 : q < i
    · rw [if_pos h2, if_pos (by omega)]
    · rw [if_neg h2, if_neg (by omega)]
theorem P_trade_at {B : Bu} {i : Nat} : (P_trade i B).2.2 i = B.2.2 i := if_neg (Nat.lt_irrefl i)
set_option maxRecDepth 20000 in
theorem lp_LW_day2 {E : En} {h : Hp} {A : Nat → Nat} {m nw sc k n : Nat} {L : Bu} {x : Int32} {PP : Option Value → Hp → Prop} (HL : LbOk h (A 23) nw sc)
    (kk : G E m_LW_day 160 [(2, .int (nI sc)), (3, .ref (A m)), (4, .int x), (0, .ref (A 22)), (1, .ref (A 23))] [] (wT h (A 23) sc (P_drift sc L)) k n PP noX) : ∀ (d i : Nat), i ≤ sc → sc - i < d → G E m_LW_day 111 [(5, .int (nI i)), (2, .int (nI sc)), (3, .ref (A m)), (4, .int x), (0, .ref (A 22)), (1, .ref (A 23))] [] (wT h (A 23) sc (P_drift i L)) k n PP noX := by
  intro d
  induction d with
  | zero => intros; omega
  | succ d ih =>
    intro i hi hd
    have s8 := HL.s8
    refine g_iload (pc := 111) d_LW_day_111 0 rfl ?_
    refine g_iload_n (pc := 113) d_LW_day_113 rfl 1 rfl ?_
    refine g_icmp_ge (pc := 114) (tgt := 160) d_LW_day_114 (by decide) (fun c_114 => ?_) (fun c_114 => ?_)
    · skip
      have eq9 : i = sc := by have := (nI_leI9 (a := sc) (b := i) (by omega) (by omega)).mp c_114; omega
      subst eq9
      refine g_perm [1, 2, 3, 4, 5] rfl ?_
      exact kk
    · skip
      have hi9 : i < sc := Nat.lt_of_not_le (fun z => c_114 ((nI_leI9 (by omega) (by omega)).mpr z))
      refine g_aload_n (pc := 117) d_LW_day_117 rfl 5 rfl ?_
      refine g_th2 (pc := 118) d_LW_day_118 fl_LW_45 HL ?_
      refine g_iload (pc := 121) d_LW_day_121 0 rfl ?_
      refine g_tsl (pc := 123) (i := i) d_LW_day_123 HL (by first | assumption | omega) ?_
      refine g_astore (pc := 124) (lv' := [(6, .ref (tw h (A 23) i)), (5, .int (nI i)), (2, .int (nI sc)), (3, .ref (A m)), (4, .int x), (0, .ref (A 22)), (1, .ref (A 23))]) d_LW_day_124 (by decide) rfl ?_
      refine g_aload (pc := 126) d_LW_day_126 0 rfl ?_
      refine g_sipush (pc := 128) (v := (-500)) d_LW_day_128 (by decide) ?_
      refine g_sipush (pc := 131) (v := 500) d_LW_day_131 (by decide) ?_
      refine g_aload (pc := 134) d_LW_day_134 0 rfl ?_
      refine g_ttI (pc := 136) (f := 1) rfl d_LW_day_136 fl_LW_75 HL (by first | assumption | omega) ?_
      refine g_aload (pc := 139) d_LW_day_139 0 rfl ?_
      refine g_ttI (pc := 141) (f := 3) rfl d_LW_day_141 fl_LW_81 HL (by first | assumption | omega) ?_
      refine g_iadd (pc := 144) d_LW_day_144 ?_
      refine g_min (pc := 145) d_LW_day_145 mm_LW_day_177 (Nat.le_of_ble_eq_true rfl) ?_
      refine g_max (pc := 148) d_LW_day_148 mm_LW_day_123 (Nat.le_of_ble_eq_true rfl) ?_
      refine g_ttp (pc := 151) (f := 1) rfl d_LW_day_151 fl_LW_75 (fun q hq => by cases hq; exact rfl) rfl rfl HL (by first | assumption | omega) ?_
      obtain ⟨x_1, hx_1⟩ : ∃ y : Int32, y = (nI i) + 1 := ⟨_, rfl⟩
      refine g_iinc (pc := 154) (w := 1) (v := x_1) (lv' := [(5, .int x_1), (6, .ref (tw h (A 23) i)), (2, .int (nI sc)), (3, .ref (A m)), (4, .int x), (0, .ref (A 22)), (1, .ref (A 23))]) d_LW_day_154 rfl (by rw [hx_1]; rfl) (by decide) rfl ?_
      refine g_goto (pc := 157) (tgt := 111) d_LW_day_157 (by decide) ?_
      obtain rfl : x_1 = nI (i + 1) := by rw [hx_1]; exact nI_1 _
      refine g_h (congrArg (wT h (A 23) sc) (P_drift_s (B := L) (i := i))) ?_
      refine g_perm [0, 2, 3, 4, 5, 6] rfl ?_
      exact ih (i + 1) (by omega) (by omega)
theorem sell_0 {c s : Nat → Int32} (h : s 12 = 0) : u1 (u1 s 0 (s 0 + 0)) 14 (s 14 + 0) = M_trade c s := by
  unfold M_trade
  rw [if_pos h]
  funext q
  simp only [u1_at]
  by_cases h1 : q = 14
  · subst h1; simp
  · by_cases h2 : q = 0
    · subst h2; simp
    · simp [h1, h2]
set_option maxRecDepth 20000 in
theorem lp_LW_day3 {E : En} {h : Hp} {A : Nat → Nat} {m nw sc k n : Nat} {L : Bu} {x : Int32} {PP : Option Value → Hp → Prop} (HL : LbOk h (A 23) nw sc) (hl : Lt sc L) (nA : A m ≠ rA h (A 23) 0 ∧ A m ≠ rA h (A 23) 1 ∧ ∀ i, i < sc → A m ≠ tw h (A 23) i) (kd : hK h (A m) = 20) (ln : hL h (A m) = sc) (td : ∀ j, j < sc → hI h (A m) j = if L.2.2 j 12 = 0 then 0 else M_gain L.1 (L.2.2 j) (M_false (L.2.2 j) (L.1 9)))
    (kk : G E m_LW_day 338 [(2, .int (nI sc)), (3, .ref (A m)), (4, .int x), (0, .ref (A 22)), (1, .ref (A 23))] [] (wT h (A 23) sc (P_trade sc L)) k n PP noX) : ∀ (d i : Nat), i ≤ sc → sc - i < d → G E m_LW_day 163 [(5, .int (nI i)), (2, .int (nI sc)), (3, .ref (A m)), (4, .int x), (0, .ref (A 22)), (1, .ref (A 23))] [] (wT h (A 23) sc (P_trade i L)) k n PP noX := by
  intro d
  induction d with
  | zero => intros; omega
  | succ d ih =>
    intro i hi hd
    have s8 := HL.s8
    refine g_iload (pc := 163) d_LW_day_163 0 rfl ?_
    refine g_iload_n (pc := 165) d_LW_day_165 rfl 1 rfl ?_
    refine g_icmp_ge (pc := 166) (tgt := 338) d_LW_day_166 (by decide) (fun c_166 => ?_) (fun c_166 => ?_)
    · skip
      have eq9 : i = sc := by have := (nI_leI9 (a := sc) (b := i) (by omega) (by omega)).mp c_166; omega
      subst eq9
      refine g_perm [1, 2, 3, 4, 5] rfl ?_
      exact kk
    · skip
      have hi9 : i < sc := Nat.lt_of_not_le (fun z => c_166 ((nI_leI9 (by omega) (by omega)).mpr z))
      have eP : (P_trade i L).2.2 i = L.2.2 i := P_trade_at
      refine g_aload_n (pc := 169) d_LW_day_169 rfl 5 rfl ?_
      refine g_th2 (pc := 170) d_LW_day_170 fl_LW_45 HL ?_
      refine g_iload (pc := 173) d_LW_day_173 0 rfl ?_
      refine g_tsl (pc := 175) (i := i) d_LW_day_175 HL (by first | assumption | omega) ?_
      refine g_astore (pc := 176) (lv' := [(6, .ref (tw h (A 23) i)), (5, .int (nI i)), (2, .int (nI sc)), (3, .ref (A m)), (4, .int x), (0, .ref (A 22)), (1, .ref (A 23))]) d_LW_day_176 (by decide) rfl ?_
      refine g_aload (pc := 178) d_LW_day_178 0 rfl ?_
      refine g_ttI (pc := 180) (f := 12) rfl d_LW_day_180 fl_LW_157 HL (by first | assumption | omega) ?_
      refine g_if_eq (pc := 183) (tgt := 195) d_LW_day_183 (by decide) (fun c_183 => ?_) (fun c_183 => ?_)
      · skip
        have c0 : L.2.2 i 12 = 0 := by rw [← eP]; exact c_183
        obtain ⟨g, hg⟩ : ∃ g : Int32, g = 0 := ⟨_, rfl⟩
        have tdi : hI h (A m) i = g := by rw [td i hi9, if_pos c0, hg]
        
        refine g_iconst (pc := 195) (v := 0) d_LW_day_195 (by decide) ?_
        refine g_top (y := g) hg.symm ?_
        refine g_istore (pc := 196) (lv' := [(7, .int g), (6, .ref (tw h (A 23) i)), (5, .int (nI i)), (2, .int (nI sc)), (3, .ref (A m)), (4, .int x), (0, .ref (A 22)), (1, .ref (A 23))]) d_LW_day_196 (by decide) rfl ?_
        refine g_aload_n (pc := 198) d_LW_day_198 rfl 4 rfl ?_
        refine g_iload (pc := 199) d_LW_day_199 2 rfl ?_
        refine g_ialoadX (pc := 201) g (j := i) d_LW_day_201 kd (by show i < hL h (A m); rw [ln]; exact hi9) (by show hL h (A m) < _; rw [ln]; omega) (by rw [hI_wT_o nA.1 nA.2.1 nA.2.2]; exact tdi) ?_
        refine g_iload (pc := 202) d_LW_day_202 0 rfl ?_
        refine g_icmp_eq (pc := 204) (tgt := 209) d_LW_day_204 (by decide) (fun c_204 => ?_) (fun c_204 => ?_)
        · skip
          refine g_aload (pc := 209) d_LW_day_209 1 rfl ?_
          refine g_dup (pc := 211) d_LW_day_211 rfl ?_
          refine g_ttI (pc := 212) (f := 0) rfl d_LW_day_212 fl_LW_71 HL (by first | assumption | omega) ?_
          refine g_iload (pc := 215) d_LW_day_215 0 rfl ?_
          refine g_iadd (pc := 217) d_LW_day_217 ?_
          refine g_ttp (pc := 218) (f := 0) rfl d_LW_day_218 fl_LW_71 (fun q hq => by cases hq; exact rfl) rfl rfl HL (by first | assumption | omega) ?_
          refine g_aload (pc := 221) d_LW_day_221 1 rfl ?_
          refine g_dup (pc := 223) d_LW_day_223 rfl ?_
          refine g_ttI (pc := 224) (f := 14) rfl d_LW_day_224 fl_LW_183 HL (by first | assumption | omega) ?_
          refine g_iload (pc := 227) d_LW_day_227 0 rfl ?_
          refine g_iadd (pc := 229) d_LW_day_229 ?_
          refine g_ttp (pc := 230) (f := 14) rfl d_LW_day_230 fl_LW_183 (fun q hq => by cases hq; exact rfl) rfl rfl HL (by first | assumption | omega) ?_
          obtain ⟨C9, hC4⟩ : ∃ C9, C9 = sS (P_trade i L) i (u1 (u1 (L.2.2 i) 0 (L.2.2 i 0 + g)) 14 (L.2.2 i 14 + g)) := ⟨_, rfl⟩
          refine g_h (h' := wT h (A 23) sc C9) (congrArg (wT h (A 23) sc) ?_) ?_
          · rw [hC4, sS_S]
            refine congrArg (sS (P_trade i L) i) ?_
            rw [sS_3, eP]
            rfl
          have hC1 : C9.1 = L.1 := by rw [hC4]; rfl
          have hC2 : C9.2.2 i = (u1 (u1 (L.2.2 i) 0 (L.2.2 i 0 + g)) 14 (L.2.2 i 14 + g)) := by rw [hC4]; exact u1_same _ _ _
          have hC3 : ∀ r, sS C9 i r = sS (P_trade i L) i r := fun r => by rw [hC4, sS_S]
          refine g_aload (pc := 233) d_LW_day_233 1 rfl ?_
          refine g_ttI (pc := 235) (f := 10) rfl d_LW_day_235 fl_LW_141 HL (by first | assumption | omega) ?_
          refine g_if_lt (pc := 238) (tgt := 262) d_LW_day_238 (by decide) (fun c_238 => ?_) (fun c_238 => ?_)
          · skip
            have k_238 : L.2.2 i 10 < 0 := by rw [hC2] at c_238; exact c_238
            have hu := uses_t (d := L.1 9) (s := L.2.2 i) (Or.inl k_238) (hl i hi9)
            refine g_iconst (pc := 262) (v := 1) d_LW_day_262 (by decide) ?_
            refine g_goto (pc := 263) (tgt := 267) d_LW_day_263 (by decide) ?_
            refine g_istore (pc := 267) (lv' := [(8, .int 1), (7, .int g), (6, .ref (tw h (A 23) i)), (5, .int (nI i)), (2, .int (nI sc)), (3, .ref (A m)), (4, .int x), (0, .ref (A 22)), (1, .ref (A 23))]) d_LW_day_267 (by decide) rfl ?_
            refine g_aload (pc := 269) d_LW_day_269 2 rfl ?_
            refine g_ttI (pc := 271) (f := 12) rfl d_LW_day_271 fl_LW_157 HL (by first | assumption | omega) ?_
            refine g_if_eq (pc := 274) (tgt := 332) d_LW_day_274 (by decide) (fun c_274 => ?_) (fun c_274 => ?_)
            · skip
              have hF : M_trade L.1 (L.2.2 i) = (u1 (u1 (L.2.2 i) 0 (L.2.2 i 0 + g)) 14 (L.2.2 i 14 + g)) := by rw [hg]; exact (sell_0 c0).symm
              obtain ⟨x_1, hx_1⟩ : ∃ y : Int32, y = (nI i) + 1 := ⟨_, rfl⟩
              refine g_iinc (pc := 332) (w := 3) (v := x_1) (lv' := [(5, .int x_1), (8, .int 1), (7, .int g), (6, .ref (tw h (A 23) i)), (2, .int (nI sc)), (3, .ref (A m)), (4, .int x), (0, .ref (A 22)), (1, .ref (A 23))]) d_LW_day_332 rfl (by rw [hx_1]; rfl) (by decide) rfl ?_
              refine g_goto (pc := 335) (tgt := 163) d_LW_day_335 (by decide) ?_
              obtain rfl : x_1 = nI (i + 1) := by rw [hx_1]; exact nI_1 _
              refine g_h (h' := wT h (A 23) sc (P_trade (i + 1) L)) ?_ ?_
              · refine congrArg (wT h (A 23) sc) ?_
                rw [← P_trade_s, hF]
                first | exact hC4 | (rw [hC3, hC2]; rfl)
              refine g_perm [0, 4, 5, 6, 7, 8] rfl ?_
              exact ih (i + 1) (by omega) (by omega)
            · exact absurd (show C9.2.2 i 12 = 0 by rw [hC2]; exact c0) c_274
          · skip
            have k_238 : ¬ L.2.2 i 10 < 0 := by rw [hC2] at c_238; exact c_238
            refine g_aload_n (pc := 241) d_LW_day_241 rfl 7 rfl ?_
            refine g_th0 (pc := 242) d_LW_day_242 fl_LW_30 HL ?_
            refine g_bipush (pc := 245) (v := 7) d_LW_day_245 (by decide) ?_
            refine g_thl (pc := 247) (j := 7) d_LW_day_247 HL (by decide) ?_
            refine g_aload (pc := 248) d_LW_day_248 1 rfl ?_
            refine g_ttI (pc := 250) (f := 10) rfl d_LW_day_250 fl_LW_141 HL (by first | assumption | omega) ?_
            refine g_isub (pc := 253) d_LW_day_253 ?_
            refine g_aload (pc := 254) d_LW_day_254 1 rfl ?_
            refine g_ttI (pc := 256) (f := 7) rfl d_LW_day_256 fl_LW_93 HL (by first | assumption | omega) ?_
            refine g_icmp_le (pc := 259) (tgt := 266) d_LW_day_259 (by decide) (fun c_259 => ?_) (fun c_259 => ?_)
            · skip
              have k_259 : L.1 9 - L.2.2 i 10 ≤ L.2.2 i 7 := by rw [hC1, hC2] at c_259; exact c_259
              have hu := uses_f (d := L.1 9) (s := L.2.2 i) k_238 k_259
              refine g_iconst (pc := 266) (v := 0) d_LW_day_266 (by decide) ?_
              refine g_istore (pc := 267) (lv' := [(8, .int 0), (7, .int g), (6, .ref (tw h (A 23) i)), (5, .int (nI i)), (2, .int (nI sc)), (3, .ref (A m)), (4, .int x), (0, .ref (A 22)), (1, .ref (A 23))]) d_LW_day_267 (by decide) rfl ?_
              refine g_aload (pc := 269) d_LW_day_269 2 rfl ?_
              refine g_ttI (pc := 271) (f := 12) rfl d_LW_day_271 fl_LW_157 HL (by first | assumption | omega) ?_
              refine g_if_eq (pc := 274) (tgt := 332) d_LW_day_274 (by decide) (fun c_274 => ?_) (fun c_274 => ?_)
              · skip
                have hF : M_trade L.1 (L.2.2 i) = (u1 (u1 (L.2.2 i) 0 (L.2.2 i 0 + g)) 14 (L.2.2 i 14 + g)) := by rw [hg]; exact (sell_0 c0).symm
                obtain ⟨x_2, hx_2⟩ : ∃ y : Int32, y = (nI i) + 1 := ⟨_, rfl⟩
                refine g_iinc (pc := 332) (w := 3) (v := x_2) (lv' := [(5, .int x_2), (8, .int 0), (7, .int g), (6, .ref (tw h (A 23) i)), (2, .int (nI sc)), (3, .ref (A m)), (4, .int x), (0, .ref (A 22)), (1, .ref (A 23))]) d_LW_day_332 rfl (by rw [hx_2]; rfl) (by decide) rfl ?_
                refine g_goto (pc := 335) (tgt := 163) d_LW_day_335 (by decide) ?_
                obtain rfl : x_2 = nI (i + 1) := by rw [hx_2]; exact nI_1 _
                refine g_h (h' := wT h (A 23) sc (P_trade (i + 1) L)) ?_ ?_
                · refine congrArg (wT h (A 23) sc) ?_
                  rw [← P_trade_s, hF]
                  first | exact hC4 | (rw [hC3, hC2]; rfl)
                refine g_perm [0, 4, 5, 6, 7, 8] rfl ?_
                exact ih (i + 1) (by omega) (by omega)
              · exact absurd (show C9.2.2 i 12 = 0 by rw [hC2]; exact c0) c_274
            · skip
              have k_259 : ¬ L.1 9 - L.2.2 i 10 ≤ L.2.2 i 7 := by rw [hC1, hC2] at c_259; exact c_259
              have hu := uses_t (d := L.1 9) (s := L.2.2 i) (Or.inr (Int32.not_le.mp k_259)) (hl i hi9)
              refine g_iconst (pc := 262) (v := 1) d_LW_day_262 (by decide) ?_
              refine g_goto (pc := 263) (tgt := 267) d_LW_day_263 (by decide) ?_
              refine g_istore (pc := 267) (lv' := [(8, .int 1), (7, .int g), (6, .ref (tw h (A 23) i)), (5, .int (nI i)), (2, .int (nI sc)), (3, .ref (A m)), (4, .int x), (0, .ref (A 22)), (1, .ref (A 23))]) d_LW_day_267 (by decide) rfl ?_
              refine g_aload (pc := 269) d_LW_day_269 2 rfl ?_
              refine g_ttI (pc := 271) (f := 12) rfl d_LW_day_271 fl_LW_157 HL (by first | assumption | omega) ?_
              refine g_if_eq (pc := 274) (tgt := 332) d_LW_day_274 (by decide) (fun c_274 => ?_) (fun c_274 => ?_)
              · skip
                have hF : M_trade L.1 (L.2.2 i) = (u1 (u1 (L.2.2 i) 0 (L.2.2 i 0 + g)) 14 (L.2.2 i 14 + g)) := by rw [hg]; exact (sell_0 c0).symm
                obtain ⟨x_3, hx_3⟩ : ∃ y : Int32, y = (nI i) + 1 := ⟨_, rfl⟩
                refine g_iinc (pc := 332) (w := 3) (v := x_3) (lv' := [(5, .int x_3), (8, .int 1), (7, .int g), (6, .ref (tw h (A 23) i)), (2, .int (nI sc)), (3, .ref (A m)), (4, .int x), (0, .ref (A 22)), (1, .ref (A 23))]) d_LW_day_332 rfl (by rw [hx_3]; rfl) (by decide) rfl ?_
                refine g_goto (pc := 335) (tgt := 163) d_LW_day_335 (by decide) ?_
                obtain rfl : x_3 = nI (i + 1) := by rw [hx_3]; exact nI_1 _
                refine g_h (h' := wT h (A 23) sc (P_trade (i + 1) L)) ?_ ?_
                · refine congrArg (wT h (A 23) sc) ?_
                  rw [← P_trade_s, hF]
                  first | exact hC4 | (rw [hC3, hC2]; rfl)
                refine g_perm [0, 4, 5, 6, 7, 8] rfl ?_
                exact ih (i + 1) (by omega) (by omega)
              · exact absurd (show C9.2.2 i 12 = 0 by rw [hC2]; exact c0) c_274
        · exact absurd rfl c_204
      · skip
        have c0 : ¬ L.2.2 i 12 = 0 := by rw [← eP]; exact c_183
        obtain ⟨g, hg⟩ : ∃ g : Int32, g = (M_gain L.1 (L.2.2 i) (M_false (L.2.2 i) (L.1 9))) := ⟨_, rfl⟩
        have tdi : hI h (A m) i = g := by rw [td i hi9, if_neg c0, hg]
        
        refine g_aload_n (pc := 186) d_LW_day_186 rfl 6 rfl ?_
        refine g_aload (pc := 187) d_LW_day_187 0 rfl ?_
        refine g_cS1 (pc := 189) (As := [.ref _, .ref _]) d_LW_day_189 rfl ms_LW_gain st_LW_day_180 rfl rfl (Nat.le_of_ble_eq_true rfl) (cl_LW_gain HL hi9 (by rw [eP]; exact hl i hi9)) ?_
        refine g_top (y := (M_gain L.1 (L.2.2 i) (M_false (L.2.2 i) (L.1 9)))) (by rw [eP]; rfl) ?_
        refine g_goto (pc := 192) (tgt := 196) d_LW_day_192 (by decide) ?_
        refine g_top (y := g) hg.symm ?_
        refine g_istore (pc := 196) (lv' := [(7, .int g), (6, .ref (tw h (A 23) i)), (5, .int (nI i)), (2, .int (nI sc)), (3, .ref (A m)), (4, .int x), (0, .ref (A 22)), (1, .ref (A 23))]) d_LW_day_196 (by decide) rfl ?_
        refine g_aload_n (pc := 198) d_LW_day_198 rfl 4 rfl ?_
        refine g_iload (pc := 199) d_LW_day_199 2 rfl ?_
        refine g_ialoadX (pc := 201) g (j := i) d_LW_day_201 kd (by show i < hL h (A m); rw [ln]; exact hi9) (by show hL h (A m) < _; rw [ln]; omega) (by rw [hI_wT_o nA.1 nA.2.1 nA.2.2]; exact tdi) ?_
        refine g_iload (pc := 202) d_LW_day_202 0 rfl ?_
        refine g_icmp_eq (pc := 204) (tgt := 209) d_LW_day_204 (by decide) (fun c_204 => ?_) (fun c_204 => ?_)
        · skip
          refine g_aload (pc := 209) d_LW_day_209 1 rfl ?_
          refine g_dup (pc := 211) d_LW_day_211 rfl ?_
          refine g_ttI (pc := 212) (f := 0) rfl d_LW_day_212 fl_LW_71 HL (by first | assumption | omega) ?_
          refine g_iload (pc := 215) d_LW_day_215 0 rfl ?_
          refine g_iadd (pc := 217) d_LW_day_217 ?_
          refine g_ttp (pc := 218) (f := 0) rfl d_LW_day_218 fl_LW_71 (fun q hq => by cases hq; exact rfl) rfl rfl HL (by first | assumption | omega) ?_
          refine g_aload (pc := 221) d_LW_day_221 1 rfl ?_
          refine g_dup (pc := 223) d_LW_day_223 rfl ?_
          refine g_ttI (pc := 224) (f := 14) rfl d_LW_day_224 fl_LW_183 HL (by first | assumption | omega) ?_
          refine g_iload (pc := 227) d_LW_day_227 0 rfl ?_
          refine g_iadd (pc := 229) d_LW_day_229 ?_
          refine g_ttp (pc := 230) (f := 14) rfl d_LW_day_230 fl_LW_183 (fun q hq => by cases hq; exact rfl) rfl rfl HL (by first | assumption | omega) ?_
          obtain ⟨C9, hC4⟩ : ∃ C9, C9 = sS (P_trade i L) i (u1 (u1 (L.2.2 i) 0 (L.2.2 i 0 + g)) 14 (L.2.2 i 14 + g)) := ⟨_, rfl⟩
          refine g_h (h' := wT h (A 23) sc C9) (congrArg (wT h (A 23) sc) ?_) ?_
          · rw [hC4, sS_S]
            refine congrArg (sS (P_trade i L) i) ?_
            rw [sS_3, eP]
            rfl
          have hC1 : C9.1 = L.1 := by rw [hC4]; rfl
          have hC2 : C9.2.2 i = (u1 (u1 (L.2.2 i) 0 (L.2.2 i 0 + g)) 14 (L.2.2 i 14 + g)) := by rw [hC4]; exact u1_same _ _ _
          have hC3 : ∀ r, sS C9 i r = sS (P_trade i L) i r := fun r => by rw [hC4, sS_S]
          refine g_aload (pc := 233) d_LW_day_233 1 rfl ?_
          refine g_ttI (pc := 235) (f := 10) rfl d_LW_day_235 fl_LW_141 HL (by first | assumption | omega) ?_
          refine g_if_lt (pc := 238) (tgt := 262) d_LW_day_238 (by decide) (fun c_238 => ?_) (fun c_238 => ?_)
          · skip
            have k_238 : L.2.2 i 10 < 0 := by rw [hC2] at c_238; exact c_238
            have hu := uses_t (d := L.1 9) (s := L.2.2 i) (Or.inl k_238) (hl i hi9)
            refine g_iconst (pc := 262) (v := 1) d_LW_day_262 (by decide) ?_
            refine g_goto (pc := 263) (tgt := 267) d_LW_day_263 (by decide) ?_
            refine g_istore (pc := 267) (lv' := [(8, .int 1), (7, .int g), (6, .ref (tw h (A 23) i)), (5, .int (nI i)), (2, .int (nI sc)), (3, .ref (A m)), (4, .int x), (0, .ref (A 22)), (1, .ref (A 23))]) d_LW_day_267 (by decide) rfl ?_
            refine g_aload (pc := 269) d_LW_day_269 2 rfl ?_
            refine g_ttI (pc := 271) (f := 12) rfl d_LW_day_271 fl_LW_157 HL (by first | assumption | omega) ?_
            refine g_if_eq (pc := 274) (tgt := 332) d_LW_day_274 (by decide) (fun c_274 => ?_) (fun c_274 => ?_)
            · exact absurd (show L.2.2 i 12 = 0 by rw [hC2] at c_274; exact c_274) c0
            · skip
              refine g_aload (pc := 277) d_LW_day_277 2 rfl ?_
              refine g_ttI (pc := 279) (f := 5) rfl d_LW_day_279 fl_LW_87 HL (by first | assumption | omega) ?_
              refine g_if_le (pc := 282) (tgt := 332) d_LW_day_282 (by decide) (fun c_282 => ?_) (fun c_282 => ?_)
              · skip
                have hF : M_trade L.1 (L.2.2 i) = (u1 (u1 (L.2.2 i) 0 (L.2.2 i 0 + g)) 14 (L.2.2 i 14 + g)) := by
                  unfold M_trade M_sell
                  rw [if_neg c0, hg]
                  exact if_neg (fun z => Int32.not_lt.mpr (show L.2.2 i 5 ≤ 0 by rw [hC2] at c_282; exact c_282) z.1)
                obtain ⟨x_4, hx_4⟩ : ∃ y : Int32, y = (nI i) + 1 := ⟨_, rfl⟩
                refine g_iinc (pc := 332) (w := 3) (v := x_4) (lv' := [(5, .int x_4), (8, .int 1), (7, .int g), (6, .ref (tw h (A 23) i)), (2, .int (nI sc)), (3, .ref (A m)), (4, .int x), (0, .ref (A 22)), (1, .ref (A 23))]) d_LW_day_332 rfl (by rw [hx_4]; rfl) (by decide) rfl ?_
                refine g_goto (pc := 335) (tgt := 163) d_LW_day_335 (by decide) ?_
                obtain rfl : x_4 = nI (i + 1) := by rw [hx_4]; exact nI_1 _
                refine g_h (h' := wT h (A 23) sc (P_trade (i + 1) L)) ?_ ?_
                · refine congrArg (wT h (A 23) sc) ?_
                  rw [← P_trade_s, hF]
                  first | exact hC4 | (rw [hC3, hC2]; rfl)
                refine g_perm [0, 4, 5, 6, 7, 8] rfl ?_
                exact ih (i + 1) (by omega) (by omega)
              · skip
                have k_282 : 0 < L.2.2 i 5 := by rw [hC2] at c_282; exact Int32.not_le.mp c_282
                refine g_aload (pc := 285) d_LW_day_285 2 rfl ?_
                refine g_aload (pc := 287) d_LW_day_287 2 rfl ?_
                refine g_ttI (pc := 289) (f := 4) rfl d_LW_day_289 fl_LW_84 HL (by first | assumption | omega) ?_
                refine g_cS1 (pc := 292) (As := [.ref _, .int _]) d_LW_day_292 rfl ms_LW_error st_LW_day_114 rfl rfl (Nat.le_of_ble_eq_true rfl) (cl_LW_error HL hi9) ?_
                refine g_top (y := M_err (L.2.2 i) (L.2.2 i 4)) (by rw [hC2]; rfl) ?_
                refine g_iload (pc := 295) d_LW_day_295 0 rfl ?_
                refine g_if_eq (pc := 297) (tgt := 308) d_LW_day_297 (by decide) (fun c_297 => ?_) (fun c_297 => ?_)
                · exact absurd c_297 (by decide)
                · skip
                  refine g_aload (pc := 300) d_LW_day_300 2 rfl ?_
                  have hf9 : M_false (L.2.2 i) (L.1 9) = M_err (L.2.2 i) (L.2.2 i 4) + L.2.2 i 6 := by unfold M_false; rw [hu]; rfl
                  refine g_ttI (pc := 302) (f := 6) rfl d_LW_day_302 fl_LW_90 HL (by first | assumption | omega) ?_
                  refine g_goto (pc := 305) (tgt := 309) d_LW_day_305 (by decide) ?_
                  refine g_iadd (pc := 309) d_LW_day_309 ?_
                  refine g_aload (pc := 310) d_LW_day_310 2 rfl ?_
                  refine g_ttI (pc := 312) (f := 4) rfl d_LW_day_312 fl_LW_84 HL (by first | assumption | omega) ?_
                  refine g_bipush (pc := 315) (v := 20) d_LW_day_315 (by decide) ?_
                  refine g_idiv (pc := 317) d_LW_day_317 (by decide) ?_
                  refine g_icmp_le (pc := 318) (tgt := 332) d_LW_day_318 (by decide) (fun c_318 => ?_) (fun c_318 => ?_)
                  · skip
                    have hF : M_trade L.1 (L.2.2 i) = (u1 (u1 (L.2.2 i) 0 (L.2.2 i 0 + g)) 14 (L.2.2 i 14 + g)) := by
                      unfold M_trade M_sell
                      rw [if_neg c0, hg]
                      exact if_neg (fun z => Int32.not_lt.mpr (show M_false (L.2.2 i) (L.1 9) ≤ L.2.2 i 4 / 20 by rw [hf9]; rw [hC2] at c_318; exact c_318) z.2)
                    obtain ⟨x_5, hx_5⟩ : ∃ y : Int32, y = (nI i) + 1 := ⟨_, rfl⟩
                    refine g_iinc (pc := 332) (w := 3) (v := x_5) (lv' := [(5, .int x_5), (8, .int 1), (7, .int g), (6, .ref (tw h (A 23) i)), (2, .int (nI sc)), (3, .ref (A m)), (4, .int x), (0, .ref (A 22)), (1, .ref (A 23))]) d_LW_day_332 rfl (by rw [hx_5]; rfl) (by decide) rfl ?_
                    refine g_goto (pc := 335) (tgt := 163) d_LW_day_335 (by decide) ?_
                    obtain rfl : x_5 = nI (i + 1) := by rw [hx_5]; exact nI_1 _
                    refine g_h (h' := wT h (A 23) sc (P_trade (i + 1) L)) ?_ ?_
                    · refine congrArg (wT h (A 23) sc) ?_
                      rw [← P_trade_s, hF]
                      first | exact hC4 | (rw [hC3, hC2]; rfl)
                    refine g_perm [0, 4, 5, 6, 7, 8] rfl ?_
                    exact ih (i + 1) (by omega) (by omega)
                  · skip
                    have hF : M_trade L.1 (L.2.2 i) = u1 (u1 (u1 (L.2.2 i) 0 (L.2.2 i 0 + g)) 14 (L.2.2 i 14 + g)) 8 (L.2.2 i 8 + 1) := by
                      unfold M_trade M_sell
                      rw [if_neg c0, hg]
                      exact if_pos ⟨k_282, show L.2.2 i 4 / 20 < M_false (L.2.2 i) (L.1 9) by rw [hf9]; rw [hC2] at c_318; exact Int32.not_le.mp c_318⟩
                    refine g_aload (pc := 321) d_LW_day_321 2 rfl ?_
                    refine g_dup (pc := 323) d_LW_day_323 rfl ?_
                    refine g_ttI (pc := 324) (f := 8) rfl d_LW_day_324 fl_LW_144 HL (by first | assumption | omega) ?_
                    refine g_iconst (pc := 327) (v := 1) d_LW_day_327 (by decide) ?_
                    refine g_iadd (pc := 328) d_LW_day_328 ?_
                    refine g_ttp (pc := 329) (f := 8) rfl d_LW_day_329 fl_LW_144 (fun q hq => by cases hq; exact rfl) rfl rfl HL (by first | assumption | omega) ?_
                    obtain ⟨x_6, hx_6⟩ : ∃ y : Int32, y = (nI i) + 1 := ⟨_, rfl⟩
                    refine g_iinc (pc := 332) (w := 3) (v := x_6) (lv' := [(5, .int x_6), (8, .int 1), (7, .int g), (6, .ref (tw h (A 23) i)), (2, .int (nI sc)), (3, .ref (A m)), (4, .int x), (0, .ref (A 22)), (1, .ref (A 23))]) d_LW_day_332 rfl (by rw [hx_6]; rfl) (by decide) rfl ?_
                    refine g_goto (pc := 335) (tgt := 163) d_LW_day_335 (by decide) ?_
                    obtain rfl : x_6 = nI (i + 1) := by rw [hx_6]; exact nI_1 _
                    refine g_h (h' := wT h (A 23) sc (P_trade (i + 1) L)) ?_ ?_
                    · refine congrArg (wT h (A 23) sc) ?_
                      rw [← P_trade_s, hF]
                      first | exact hC4 | (rw [hC3, hC2]; rfl)
                    refine g_perm [0, 4, 5, 6, 7, 8] rfl ?_
                    exact ih (i + 1) (by omega) (by omega)
          · skip
            have k_238 : ¬ L.2.2 i 10 < 0 := by rw [hC2] at c_238; exact c_238
            refine g_aload_n (pc := 241) d_LW_day_241 rfl 7 rfl ?_
            refine g_th0 (pc := 242) d_LW_day_242 fl_LW_30 HL ?_
            refine g_bipush (pc := 245) (v := 7) d_LW_day_245 (by decide) ?_
            refine g_thl (pc := 247) (j := 7) d_LW_day_247 HL (by decide) ?_
            refine g_aload (pc := 248) d_LW_day_248 1 rfl ?_
            refine g_ttI (pc := 250) (f := 10) rfl d_LW_day_250 fl_LW_141 HL (by first | assumption | omega) ?_
            refine g_isub (pc := 253) d_LW_day_253 ?_
            refine g_aload (pc := 254) d_LW_day_254 1 rfl ?_
            refine g_ttI (pc := 256) (f := 7) rfl d_LW_day_256 fl_LW_93 HL (by first | assumption | omega) ?_
            refine g_icmp_le (pc := 259) (tgt := 266) d_LW_day_259 (by decide) (fun c_259 => ?_) (fun c_259 => ?_)
            · skip
              have k_259 : L.1 9 - L.2.2 i 10 ≤ L.2.2 i 7 := by rw [hC1, hC2] at c_259; exact c_259
              have hu := uses_f (d := L.1 9) (s := L.2.2 i) k_238 k_259
              refine g_iconst (pc := 266) (v := 0) d_LW_day_266 (by decide) ?_
              refine g_istore (pc := 267) (lv' := [(8, .int 0), (7, .int g), (6, .ref (tw h (A 23) i)), (5, .int (nI i)), (2, .int (nI sc)), (3, .ref (A m)), (4, .int x), (0, .ref (A 22)), (1, .ref (A 23))]) d_LW_day_267 (by decide) rfl ?_
              refine g_aload (pc := 269) d_LW_day_269 2 rfl ?_
              refine g_ttI (pc := 271) (f := 12) rfl d_LW_day_271 fl_LW_157 HL (by first | assumption | omega) ?_
              refine g_if_eq (pc := 274) (tgt := 332) d_LW_day_274 (by decide) (fun c_274 => ?_) (fun c_274 => ?_)
              · exact absurd (show L.2.2 i 12 = 0 by rw [hC2] at c_274; exact c_274) c0
              · skip
                refine g_aload (pc := 277) d_LW_day_277 2 rfl ?_
                refine g_ttI (pc := 279) (f := 5) rfl d_LW_day_279 fl_LW_87 HL (by first | assumption | omega) ?_
                refine g_if_le (pc := 282) (tgt := 332) d_LW_day_282 (by decide) (fun c_282 => ?_) (fun c_282 => ?_)
                · skip
                  have hF : M_trade L.1 (L.2.2 i) = (u1 (u1 (L.2.2 i) 0 (L.2.2 i 0 + g)) 14 (L.2.2 i 14 + g)) := by
                    unfold M_trade M_sell
                    rw [if_neg c0, hg]
                    exact if_neg (fun z => Int32.not_lt.mpr (show L.2.2 i 5 ≤ 0 by rw [hC2] at c_282; exact c_282) z.1)
                  obtain ⟨x_7, hx_7⟩ : ∃ y : Int32, y = (nI i) + 1 := ⟨_, rfl⟩
                  refine g_iinc (pc := 332) (w := 3) (v := x_7) (lv' := [(5, .int x_7), (8, .int 0), (7, .int g), (6, .ref (tw h (A 23) i)), (2, .int (nI sc)), (3, .ref (A m)), (4, .int x), (0, .ref (A 22)), (1, .ref (A 23))]) d_LW_day_332 rfl (by rw [hx_7]; rfl) (by decide) rfl ?_
                  refine g_goto (pc := 335) (tgt := 163) d_LW_day_335 (by decide) ?_
                  obtain rfl : x_7 = nI (i + 1) := by rw [hx_7]; exact nI_1 _
                  refine g_h (h' := wT h (A 23) sc (P_trade (i + 1) L)) ?_ ?_
                  · refine congrArg (wT h (A 23) sc) ?_
                    rw [← P_trade_s, hF]
                    first | exact hC4 | (rw [hC3, hC2]; rfl)
                  refine g_perm [0, 4, 5, 6, 7, 8] rfl ?_
                  exact ih (i + 1) (by omega) (by omega)
                · skip
                  have k_282 : 0 < L.2.2 i 5 := by rw [hC2] at c_282; exact Int32.not_le.mp c_282
                  refine g_aload (pc := 285) d_LW_day_285 2 rfl ?_
                  refine g_aload (pc := 287) d_LW_day_287 2 rfl ?_
                  refine g_ttI (pc := 289) (f := 4) rfl d_LW_day_289 fl_LW_84 HL (by first | assumption | omega) ?_
                  refine g_cS1 (pc := 292) (As := [.ref _, .int _]) d_LW_day_292 rfl ms_LW_error st_LW_day_114 rfl rfl (Nat.le_of_ble_eq_true rfl) (cl_LW_error HL hi9) ?_
                  refine g_top (y := M_err (L.2.2 i) (L.2.2 i 4)) (by rw [hC2]; rfl) ?_
                  refine g_iload (pc := 295) d_LW_day_295 0 rfl ?_
                  refine g_if_eq (pc := 297) (tgt := 308) d_LW_day_297 (by decide) (fun c_297 => ?_) (fun c_297 => ?_)
                  · skip
                    have hf9 : M_false (L.2.2 i) (L.1 9) = M_err (L.2.2 i) (L.2.2 i 4) + 0 := by unfold M_false; rw [hu]; rfl
                    refine g_iconst (pc := 308) (v := 0) d_LW_day_308 (by decide) ?_
                    refine g_iadd (pc := 309) d_LW_day_309 ?_
                    refine g_aload (pc := 310) d_LW_day_310 2 rfl ?_
                    refine g_ttI (pc := 312) (f := 4) rfl d_LW_day_312 fl_LW_84 HL (by first | assumption | omega) ?_
                    refine g_bipush (pc := 315) (v := 20) d_LW_day_315 (by decide) ?_
                    refine g_idiv (pc := 317) d_LW_day_317 (by decide) ?_
                    refine g_icmp_le (pc := 318) (tgt := 332) d_LW_day_318 (by decide) (fun c_318 => ?_) (fun c_318 => ?_)
                    · skip
                      have hF : M_trade L.1 (L.2.2 i) = (u1 (u1 (L.2.2 i) 0 (L.2.2 i 0 + g)) 14 (L.2.2 i 14 + g)) := by
                        unfold M_trade M_sell
                        rw [if_neg c0, hg]
                        exact if_neg (fun z => Int32.not_lt.mpr (show M_false (L.2.2 i) (L.1 9) ≤ L.2.2 i 4 / 20 by rw [hf9]; rw [hC2] at c_318; exact c_318) z.2)
                      obtain ⟨x_8, hx_8⟩ : ∃ y : Int32, y = (nI i) + 1 := ⟨_, rfl⟩
                      refine g_iinc (pc := 332) (w := 3) (v := x_8) (lv' := [(5, .int x_8), (8, .int 0), (7, .int g), (6, .ref (tw h (A 23) i)), (2, .int (nI sc)), (3, .ref (A m)), (4, .int x), (0, .ref (A 22)), (1, .ref (A 23))]) d_LW_day_332 rfl (by rw [hx_8]; rfl) (by decide) rfl ?_
                      refine g_goto (pc := 335) (tgt := 163) d_LW_day_335 (by decide) ?_
                      obtain rfl : x_8 = nI (i + 1) := by rw [hx_8]; exact nI_1 _
                      refine g_h (h' := wT h (A 23) sc (P_trade (i + 1) L)) ?_ ?_
                      · refine congrArg (wT h (A 23) sc) ?_
                        rw [← P_trade_s, hF]
                        first | exact hC4 | (rw [hC3, hC2]; rfl)
                      refine g_perm [0, 4, 5, 6, 7, 8] rfl ?_
                      exact ih (i + 1) (by omega) (by omega)
                    · skip
                      have hF : M_trade L.1 (L.2.2 i) = u1 (u1 (u1 (L.2.2 i) 0 (L.2.2 i 0 + g)) 14 (L.2.2 i 14 + g)) 8 (L.2.2 i 8 + 1) := by
                        unfold M_trade M_sell
                        rw [if_neg c0, hg]
                        exact if_pos ⟨k_282, show L.2.2 i 4 / 20 < M_false (L.2.2 i) (L.1 9) by rw [hf9]; rw [hC2] at c_318; exact Int32.not_le.mp c_318⟩
                      refine g_aload (pc := 321) d_LW_day_321 2 rfl ?_
                      refine g_dup (pc := 323) d_LW_day_323 rfl ?_
                      refine g_ttI (pc := 324) (f := 8) rfl d_LW_day_324 fl_LW_144 HL (by first | assumption | omega) ?_
                      refine g_iconst (pc := 327) (v := 1) d_LW_day_327 (by decide) ?_
                      refine g_iadd (pc := 328) d_LW_day_328 ?_
                      refine g_ttp (pc := 329) (f := 8) rfl d_LW_day_329 fl_LW_144 (fun q hq => by cases hq; exact rfl) rfl rfl HL (by first | assumption | omega) ?_
                      obtain ⟨x_9, hx_9⟩ : ∃ y : Int32, y = (nI i) + 1 := ⟨_, rfl⟩
                      refine g_iinc (pc := 332) (w := 3) (v := x_9) (lv' := [(5, .int x_9), (8, .int 0), (7, .int g), (6, .ref (tw h (A 23) i)), (2, .int (nI sc)), (3, .ref (A m)), (4, .int x), (0, .ref (A 22)), (1, .ref (A 23))]) d_LW_day_332 rfl (by rw [hx_9]; rfl) (by decide) rfl ?_
                      refine g_goto (pc := 335) (tgt := 163) d_LW_day_335 (by decide) ?_
                      obtain rfl : x_9 = nI (i + 1) := by rw [hx_9]; exact nI_1 _
                      refine g_h (h' := wT h (A 23) sc (P_trade (i + 1) L)) ?_ ?_
                      · refine congrArg (wT h (A 23) sc) ?_
                        rw [← P_trade_s, hF]
                        first | exact hC4 | (rw [hC3, hC2]; rfl)
                      refine g_perm [0, 4, 5, 6, 7, 8] rfl ?_
                      exact ih (i + 1) (by omega) (by omega)
                  · exact (c_297 (by decide)).elim
            · skip
              have k_259 : ¬ L.1 9 - L.2.2 i 10 ≤ L.2.2 i 7 := by rw [hC1, hC2] at c_259; exact c_259
              have hu := uses_t (d := L.1 9) (s := L.2.2 i) (Or.inr (Int32.not_le.mp k_259)) (hl i hi9)
              refine g_iconst (pc := 262) (v := 1) d_LW_day_262 (by decide) ?_
              refine g_goto (pc := 263) (tgt := 267) d_LW_day_263 (by decide) ?_
              refine g_istore (pc := 267) (lv' := [(8, .int 1), (7, .int g), (6, .ref (tw h (A 23) i)), (5, .int (nI i)), (2, .int (nI sc)), (3, .ref (A m)), (4, .int x), (0, .ref (A 22)), (1, .ref (A 23))]) d_LW_day_267 (by decide) rfl ?_
              refine g_aload (pc := 269) d_LW_day_269 2 rfl ?_
              refine g_ttI (pc := 271) (f := 12) rfl d_LW_day_271 fl_LW_157 HL (by first | assumption | omega) ?_
              refine g_if_eq (pc := 274) (tgt := 332) d_LW_day_274 (by decide) (fun c_274 => ?_) (fun c_274 => ?_)
              · exact absurd (show L.2.2 i 12 = 0 by rw [hC2] at c_274; exact c_274) c0
              · skip
                refine g_aload (pc := 277) d_LW_day_277 2 rfl ?_
                refine g_ttI (pc := 279) (f := 5) rfl d_LW_day_279 fl_LW_87 HL (by first | assumption | omega) ?_
                refine g_if_le (pc := 282) (tgt := 332) d_LW_day_282 (by decide) (fun c_282 => ?_) (fun c_282 => ?_)
                · skip
                  have hF : M_trade L.1 (L.2.2 i) = (u1 (u1 (L.2.2 i) 0 (L.2.2 i 0 + g)) 14 (L.2.2 i 14 + g)) := by
                    unfold M_trade M_sell
                    rw [if_neg c0, hg]
                    exact if_neg (fun z => Int32.not_lt.mpr (show L.2.2 i 5 ≤ 0 by rw [hC2] at c_282; exact c_282) z.1)
                  obtain ⟨x_10, hx_10⟩ : ∃ y : Int32, y = (nI i) + 1 := ⟨_, rfl⟩
                  refine g_iinc (pc := 332) (w := 3) (v := x_10) (lv' := [(5, .int x_10), (8, .int 1), (7, .int g), (6, .ref (tw h (A 23) i)), (2, .int (nI sc)), (3, .ref (A m)), (4, .int x), (0, .ref (A 22)), (1, .ref (A 23))]) d_LW_day_332 rfl (by rw [hx_10]; rfl) (by decide) rfl ?_
                  refine g_goto (pc := 335) (tgt := 163) d_LW_day_335 (by decide) ?_
                  obtain rfl : x_10 = nI (i + 1) := by rw [hx_10]; exact nI_1 _
                  refine g_h (h' := wT h (A 23) sc (P_trade (i + 1) L)) ?_ ?_
                  · refine congrArg (wT h (A 23) sc) ?_
                    rw [← P_trade_s, hF]
                    first | exact hC4 | (rw [hC3, hC2]; rfl)
                  refine g_perm [0, 4, 5, 6, 7, 8] rfl ?_
                  exact ih (i + 1) (by omega) (by omega)
                · skip
                  have k_282 : 0 < L.2.2 i 5 := by rw [hC2] at c_282; exact Int32.not_le.mp c_282
                  refine g_aload (pc := 285) d_LW_day_285 2 rfl ?_
                  refine g_aload (pc := 287) d_LW_day_287 2 rfl ?_
                  refine g_ttI (pc := 289) (f := 4) rfl d_LW_day_289 fl_LW_84 HL (by first | assumption | omega) ?_
                  refine g_cS1 (pc := 292) (As := [.ref _, .int _]) d_LW_day_292 rfl ms_LW_error st_LW_day_114 rfl rfl (Nat.le_of_ble_eq_true rfl) (cl_LW_error HL hi9) ?_
                  refine g_top (y := M_err (L.2.2 i) (L.2.2 i 4)) (by rw [hC2]; rfl) ?_
                  refine g_iload (pc := 295) d_LW_day_295 0 rfl ?_
                  refine g_if_eq (pc := 297) (tgt := 308) d_LW_day_297 (by decide) (fun c_297 => ?_) (fun c_297 => ?_)
                  · exact absurd c_297 (by decide)
                  · skip
                    refine g_aload (pc := 300) d_LW_day_300 2 rfl ?_
                    have hf9 : M_false (L.2.2 i) (L.1 9) = M_err (L.2.2 i) (L.2.2 i 4) + L.2.2 i 6 := by unfold M_false; rw [hu]; rfl
                    refine g_ttI (pc := 302) (f := 6) rfl d_LW_day_302 fl_LW_90 HL (by first | assumption | omega) ?_
                    refine g_goto (pc := 305) (tgt := 309) d_LW_day_305 (by decide) ?_
                    refine g_iadd (pc := 309) d_LW_day_309 ?_
                    refine g_aload (pc := 310) d_LW_day_310 2 rfl ?_
                    refine g_ttI (pc := 312) (f := 4) rfl d_LW_day_312 fl_LW_84 HL (by first | assumption | omega) ?_
                    refine g_bipush (pc := 315) (v := 20) d_LW_day_315 (by decide) ?_
                    refine g_idiv (pc := 317) d_LW_day_317 (by decide) ?_
                    refine g_icmp_le (pc := 318) (tgt := 332) d_LW_day_318 (by decide) (fun c_318 => ?_) (fun c_318 => ?_)
                    · skip
                      have hF : M_trade L.1 (L.2.2 i) = (u1 (u1 (L.2.2 i) 0 (L.2.2 i 0 + g)) 14 (L.2.2 i 14 + g)) := by
                        unfold M_trade M_sell
                        rw [if_neg c0, hg]
                        exact if_neg (fun z => Int32.not_lt.mpr (show M_false (L.2.2 i) (L.1 9) ≤ L.2.2 i 4 / 20 by rw [hf9]; rw [hC2] at c_318; exact c_318) z.2)
                      obtain ⟨x_11, hx_11⟩ : ∃ y : Int32, y = (nI i) + 1 := ⟨_, rfl⟩
                      refine g_iinc (pc := 332) (w := 3) (v := x_11) (lv' := [(5, .int x_11), (8, .int 1), (7, .int g), (6, .ref (tw h (A 23) i)), (2, .int (nI sc)), (3, .ref (A m)), (4, .int x), (0, .ref (A 22)), (1, .ref (A 23))]) d_LW_day_332 rfl (by rw [hx_11]; rfl) (by decide) rfl ?_
                      refine g_goto (pc := 335) (tgt := 163) d_LW_day_335 (by decide) ?_
                      obtain rfl : x_11 = nI (i + 1) := by rw [hx_11]; exact nI_1 _
                      refine g_h (h' := wT h (A 23) sc (P_trade (i + 1) L)) ?_ ?_
                      · refine congrArg (wT h (A 23) sc) ?_
                        rw [← P_trade_s, hF]
                        first | exact hC4 | (rw [hC3, hC2]; rfl)
                      refine g_perm [0, 4, 5, 6, 7, 8] rfl ?_
                      exact ih (i + 1) (by omega) (by omega)
                    · skip
                      have hF : M_trade L.1 (L.2.2 i) = u1 (u1 (u1 (L.2.2 i) 0 (L.2.2 i 0 + g)) 14 (L.2.2 i 14 + g)) 8 (L.2.2 i 8 + 1) := by
                        unfold M_trade M_sell
                        rw [if_neg c0, hg]
                        exact if_pos ⟨k_282, show L.2.2 i 4 / 20 < M_false (L.2.2 i) (L.1 9) by rw [hf9]; rw [hC2] at c_318; exact Int32.not_le.mp c_318⟩
                      refine g_aload (pc := 321) d_LW_day_321 2 rfl ?_
                      refine g_dup (pc := 323) d_LW_day_323 rfl ?_
                      refine g_ttI (pc := 324) (f := 8) rfl d_LW_day_324 fl_LW_144 HL (by first | assumption | omega) ?_
                      refine g_iconst (pc := 327) (v := 1) d_LW_day_327 (by decide) ?_
                      refine g_iadd (pc := 328) d_LW_day_328 ?_
                      refine g_ttp (pc := 329) (f := 8) rfl d_LW_day_329 fl_LW_144 (fun q hq => by cases hq; exact rfl) rfl rfl HL (by first | assumption | omega) ?_
                      obtain ⟨x_12, hx_12⟩ : ∃ y : Int32, y = (nI i) + 1 := ⟨_, rfl⟩
                      refine g_iinc (pc := 332) (w := 3) (v := x_12) (lv' := [(5, .int x_12), (8, .int 1), (7, .int g), (6, .ref (tw h (A 23) i)), (2, .int (nI sc)), (3, .ref (A m)), (4, .int x), (0, .ref (A 22)), (1, .ref (A 23))]) d_LW_day_332 rfl (by rw [hx_12]; rfl) (by decide) rfl ?_
                      refine g_goto (pc := 335) (tgt := 163) d_LW_day_335 (by decide) ?_
                      obtain rfl : x_12 = nI (i + 1) := by rw [hx_12]; exact nI_1 _
                      refine g_h (h' := wT h (A 23) sc (P_trade (i + 1) L)) ?_ ?_
                      · refine congrArg (wT h (A 23) sc) ?_
                        rw [← P_trade_s, hF]
                        first | exact hC4 | (rw [hC3, hC2]; rfl)
                      refine g_perm [0, 4, 5, 6, 7, 8] rfl ?_
                      exact ih (i + 1) (by omega) (by omega)
        · exact absurd rfl c_204
