/-! COINS: none is lost; what the law keeps from day to day -/
theorem Q_coin_all {a : Int32} {s s' : Nat → Nat → Int32} : ∀ n, (∀ i, i < n → s' i 14 - s' i 0 = s i 14 - s i 0) → Q_coin a s' n = Q_coin a s n
  | 0, _ => rfl
  | n + 1, h => by rw [Q_coin, Q_coin, Q_coin_all n (fun i hi => h i (by omega)), h n (by omega)]
theorem Q_coin_upd {a : Int32} {s : Nat → Nat → Int32} {i : Nat} {r : Nat → Int32} : ∀ n, i < n → Q_coin a (u1 s i r) n = Q_coin a s n + ((r 14 - r 0) - (s i 14 - s i 0))
  | 0, h => by omega
  | n + 1, h => by
    rw [Q_coin, Q_coin]
    by_cases e : i = n
    · subst e
      rw [u1_same, Q_coin_all i (fun j hj => by rw [u1_ne (by omega)])]
      grind
    · rw [u1_ne (fun z => e z.symm), Q_coin_upd n (by omega)]
      grind
theorem money_cong {s s' : Nat → Nat → Int32} : ∀ n, (∀ i, i < n → s' i 15 = s i 15) → P_money s' n = P_money s n
  | 0, _ => rfl
  | n + 1, h => by rw [P_money, P_money, money_cong n (fun i hi => h i (by omega)), h n (by omega)]
theorem Q_c_all {B C : Bu} {sc : Nat} (h10 : C.1 10 = B.1 10) (h15 : ∀ i, i < sc → C.2.2 i 15 = B.2.2 i 15) (h : ∀ i, i < sc → C.2.2 i 14 - C.2.2 i 0 = B.2.2 i 14 - B.2.2 i 0) : Q_c C sc = Q_c B sc := by
  unfold Q_c
  rw [money_cong sc h15, h10, Q_coin_all sc h]
/-- f coins go from shop i to the bureau -/
theorem Q_c_pay {B : Bu} {sc i : Nat} {c s : Nat → Int32} {f : Int32} (hi : i < sc) (h10 : c 10 = B.1 10 + f) (h15 : s 15 = B.2.2 i 15) (h14 : s 14 = B.2.2 i 14) (h0 : s 0 = B.2.2 i 0 - f) : Q_c (sC (sS B i s) c) sc = Q_c B sc := by
  show Q_coin (P_money (u1 B.2.2 i s) sc - c 10) (u1 B.2.2 i s) sc = Q_coin (P_money B.2.2 sc - B.1 10) B.2.2 sc
  have e15 : ∀ j, j < sc → u1 B.2.2 i s j 15 = B.2.2 j 15 := fun j hj => by
    rw [u1_at]
    by_cases e : j = i
    · rw [if_pos e, e, h15]
    · rw [if_neg e]
  rw [money_cong (s := B.2.2) sc e15, h10, Q_coin_upd sc hi, h14, h0, show P_money B.2.2 sc - (B.1 10 + f) = P_money B.2.2 sc - B.1 10 + (0 - f) by grind, Q_coin_add]
  grind
theorem Q_c_nB {B : Bu} {sc : Nat} (s8 : sc ≤ 8) : Q_c (nB B) sc = Q_c B sc := Q_c_all rfl (fun i hi => by rw [nB_s (by omega)]) (fun i hi => by rw [nB_s (by omega)])
theorem M_vis_0 {c s : Nat → Int32} {t : Int32} {z : Bool} : ∃ f, M_visC c t z 10 = c 10 + f ∧ M_visS c s t z 14 = s 14 ∧ M_visS c s t z 0 = s 0 - f := by
  by_cases hc : 0 < t ∨ z = false
  · refine ⟨M_fine c t z, ?_⟩
    unfold M_visC M_visS M_straight
    simp only [if_pos hc]
    refine ⟨by rw [u1_same], ?_, ?_⟩ <;> (split <;> split <;> simp only [u1_at, Nat.reduceEqDiff, reduceIte, reduceCtorEq])
  · refine ⟨0, ?_⟩
    unfold M_visC M_visS M_straight
    simp only [if_neg hc]
    refine ⟨by rw [u1_ne (by decide)]; grind, ?_, ?_⟩ <;> (split <;> split <;> simp only [u1_at, Nat.reduceEqDiff, reduceIte, reduceCtorEq] <;> grind)
theorem Q_c_ins {B : Bu} {sc i nw : Nat} (hi : i < sc) : Q_c (P_ins B i nw) sc = Q_c B sc := by
  unfold P_ins
  try dsimp only
  obtain ⟨f, h1, h2, h3⟩ := M_vis_0 (c := B.1) (s := B.2.2 i) (t := M_tot B.1 B.2.1 (B.2.2 i) nw) (z := M_stamped (B.2.2 i) (B.1 9))
  exact Q_c_pay hi h1 (KS_vis 15 (by decide)) h2 h3
theorem Q_c_repair {B : Bu} {sc i : Nat} (hi : i < sc) : Q_c (P_repair B i) sc = Q_c B sc := by
  unfold P_repair
  refine Q_c_pay (f := 10) hi (by rw [u1_same]) ?_ ?_ ?_
  · rw [u1_ne (by decide)]; rfl
  · rw [u1_ne (by decide)]; rfl
  · rw [u1_same]
theorem Q_c_begin {B : Bu} {sc : Nat} : Q_c (P_begin sc B) sc = Q_c B sc := by
  have e : ∀ i, i < sc → ∀ k, k ≠ 1 → (P_begin sc B).2.2 i k = B.2.2 i k := fun i hi k hk => by
    show (if i < sc then M_drift (B.2.2 i) else B.2.2 i) k = _
    rw [if_pos hi]
    exact u1_ne hk
  exact Q_c_all (show u1 B.1 9 (B.1 9 + 1) 10 = B.1 10 from u1_ne (by decide)) (fun i hi => e i hi 15 (by decide)) (fun i hi => by rw [e i hi 14 (by decide), e i hi 0 (by decide)])
theorem Q_c_trade {B : Bu} {sc : Nat} : Q_c (P_trade sc B) sc = Q_c B sc := by
  have e : ∀ i, i < sc → (P_trade sc B).2.2 i = M_trade B.1 (B.2.2 i) := fun i hi => if_pos hi
  refine Q_c_all rfl (fun i hi => by rw [e i hi]; exact KS_trade 15 (by decide)) (fun i hi => ?_)
  rw [e i hi]
  unfold M_trade
  split
  · rfl
  · unfold M_sell
    try dsimp only
    split <;> simp only [u1_at, Nat.reduceEqDiff, reduceIte, reduceCtorEq] <;> grind
theorem Q_c_choose {B : Bu} {sc : Nat} : Q_c (P_choose B sc).2 sc = Q_c B sc := by
  unfold P_choose
  split
  · rfl
  · exact Q_c_all (show u1 B.1 6 (nI (M_seed (B.1 6))) 10 = B.1 10 from u1_ne (by decide)) (fun _ _ => rfl) (fun _ _ => rfl)
theorem Q_c_sent {nw sc : Nat} (h0 : 0 < sc) : ∀ (n m : Nat) (B : Bu), Q_c (P_sent nw sc n (m, B)).2 sc = Q_c B sc
  | 0, _, _ => rfl
  | n + 1, m, B => by
    have e := Q_c_choose (B := B) (sc := sc)
    have hl := fun i (z : (P_choose B sc).1 = some i) => P_choose_lt h0 z
    rw [P_sent]
    try dsimp only
    revert e hl
    generalize P_choose B sc = u
    obtain ⟨a, C⟩ := u
    intro e hl
    cases a with
    | none => rw [Q_c_sent h0 n m C]; exact e
    | some i => rw [Q_c_sent h0 n (m + 1) (P_ins C i nw), Q_c_ins (hl i rfl)]; exact e
theorem Q_c_day {nw sc ni : Nat} {B : Bu} (h0 : 0 < sc) : Q_c (P_day nw sc ni (0, B)).2 sc = Q_c B sc := by
  show Q_c (P_sent nw sc ni (0, P_trade sc (P_begin sc B))).2 sc = _
  rw [Q_c_sent h0, Q_c_trade, Q_c_begin]
/-! the visits' days -/
def Lt (sc : Nat) (L : Bu) : Prop := ∀ i, i < sc → L.2.2 i 10 = -1 ∨ 0 ≤ L.2.2 i 10
theorem Lt_ins {L : Bu} {sc i nw : Nat} (h : Lt sc L) (h9 : 0 ≤ L.1 9) : Lt sc (P_ins L i nw) := fun j hj => by
  show u1 L.2.2 i (M_visS _ _ _ _) j 10 = -1 ∨ 0 ≤ u1 L.2.2 i (M_visS _ _ _ _) j 10
  rw [u1_at]
  split
  · right
    have e : ∀ t z, M_visS L.1 (L.2.2 i) t z 10 = L.1 9 := fun t z => by
      unfold M_visS M_straight
      try dsimp only
      split <;> split <;> split <;> simp only [u1_at, Nat.reduceEqDiff, reduceIte, reduceCtorEq]
    rw [e]
    exact h9
  · exact h j hj
theorem Lt_begin {L : Bu} {sc : Nat} (h : Lt sc L) : Lt sc (P_begin sc L) := fun i hi => by
  have e : (P_begin sc L).2.2 i 10 = L.2.2 i 10 := by
    show (if i < sc then M_drift (L.2.2 i) else L.2.2 i) 10 = _
    rw [if_pos hi]
    exact u1_ne (by decide)
  rw [e]
  exact h i hi
theorem Lt_trade {L : Bu} {sc : Nat} (h : Lt sc L) : Lt sc (P_trade sc L) := fun i hi => by
  have e : (P_trade sc L).2.2 i 10 = L.2.2 i 10 := by
    show (if i < sc then M_trade L.1 (L.2.2 i) else L.2.2 i) 10 = _
    rw [if_pos hi]
    unfold M_trade
    split
    · rfl
    · unfold M_sell
      try dsimp only
      split <;> simp only [u1_at, Nat.reduceEqDiff, reduceIte, reduceCtorEq]
  rw [e]
  exact h i hi
theorem choose_9 {L : Bu} {sc : Nat} : (P_choose L sc).2.1 9 = L.1 9 ∧ (P_choose L sc).2.2 = L.2 ∧ (P_choose L sc).2.1 3 = L.1 3 := by
  unfold P_choose
  split
  · exact ⟨rfl, rfl, rfl⟩
  · exact ⟨show u1 L.1 6 (nI (M_seed (L.1 6))) 9 = L.1 9 from u1_ne (by decide), rfl, show u1 L.1 6 (nI (M_seed (L.1 6))) 3 = L.1 3 from u1_ne (by decide)⟩
theorem ins_9 {L : Bu} {i nw : Nat} : (P_ins L i nw).1 9 = L.1 9 := by
  show M_visC _ _ _ 9 = _
  unfold M_visC
  try dsimp only
  split <;> simp only [u1_at, Nat.reduceEqDiff, reduceIte, reduceCtorEq]
theorem ins_3 {L : Bu} {i nw : Nat} : (P_ins L i nw).1 3 = L.1 3 := by
  show M_visC _ _ _ 3 = _
  unfold M_visC
  try dsimp only
  split <;> simp only [u1_at, Nat.reduceEqDiff, reduceIte, reduceCtorEq]
theorem sent_9 {nw sc : Nat} : ∀ (n m : Nat) (L : Bu), Lt sc L → 0 ≤ L.1 9 → Lt sc (P_sent nw sc n (m, L)).2 ∧ (P_sent nw sc n (m, L)).2.1 9 = L.1 9 ∧ (P_sent nw sc n (m, L)).2.1 3 = L.1 3
  | 0, _, _, h, _ => ⟨h, rfl, rfl⟩
  | n + 1, m, L, h, h9 => by
    obtain ⟨e1, e2, e3⟩ := choose_9 (L := L) (sc := sc)
    rw [P_sent]
    try dsimp only
    revert e1 e2 e3
    generalize P_choose L sc = u
    obtain ⟨a, C⟩ := u
    intro e1 e2 e3
    have e3 : C.1 3 = L.1 3 := e3
    have e1 : C.1 9 = L.1 9 := e1
    have e2 : C.2 = L.2 := e2
    have hC : Lt sc C := fun i hi => by rw [e2]; exact h i hi
    cases a with
    | none =>
      obtain ⟨a1, a2, a3⟩ := sent_9 (nw := nw) n m C hC (by rw [e1]; exact h9)
      exact ⟨a1, a2.trans e1, a3.trans e3⟩
    | some i =>
      obtain ⟨a1, a2, a3⟩ := sent_9 (nw := nw) n (m + 1) (P_ins C i nw) (Lt_ins hC (by rw [e1]; exact h9)) (by rw [ins_9, e1]; exact h9)
      exact ⟨a1, a2.trans (ins_9.trans e1), a3.trans (ins_3.trans e3)⟩
/-! all that stays true -/
def Wt (nw : Nat) (L : Bu) : Prop := ∀ j, j < nw → 1 ≤ L.2.1 j ∧ L.2.1 j ≤ 5000
def PB (nw sc ni T : Nat) (L B : Bu) : Prop := Jq nw sc L B ∧ Gd B nw sc ni T ∧ Q_c B sc = 0 ∧ (∃ K, K ≤ T ∧ L.1 9 = nI K) ∧ Lt sc L ∧ Wt nw L ∧ ∃ V, V ≤ 1000 ∧ L.1 3 = nI V
theorem Jq.gd {nw sc ni U : Nat} {L B : Bu} (J : Jq nw sc L B) (g : Gd B nw sc ni U) : Gd L nw sc ni U := by
  obtain ⟨⟨g1, g2, g3, g4, g5, g6, g7, ⟨sd, g8, g8'⟩, g9⟩, ⟨c0, c1, c2⟩, s⟩ := g
  obtain ⟨J1, J2, J3⟩ := J
  refine ⟨⟨(J1 7 (by decide)).trans g1, g2, (J1 8 (by decide)).trans g3, g4, g5, (J1 5 (by decide)).trans g6, g7, ⟨sd, g8, (J1 6 (by decide)).trans g8'⟩, fun i hi => by rw [J3 i hi 12 (by decide)]; exact g9 i hi⟩, ⟨by rw [J1 0 (by decide)]; exact c0, by rw [J1 1 (by decide)]; exact c1, fun j hj => by rw [J2 j hj]; exact c2 j hj⟩, fun i hi => ?_⟩
  have z := s i hi
  unfold Sg
  rw [J3 i hi 12 (by decide), J3 i hi 1 (by decide), J3 i hi 2 (by decide), J3 i hi 8 (by decide)]
  exact z

theorem PB_day {nw sc ni T : Nat} {L B : Bu} (p : PB nw sc ni T L B) (hT : T ≤ 100000) : PB nw sc ni (T + 1) (P_day nw sc ni (0, L)).2 (nB (P_pass nw sc ni 1 (0, B)).2) ∧ (P_day nw sc ni (0, L)).1 = (P_pass nw sc ni 1 (0, B)).1 := by
  obtain ⟨J, G, q, ⟨K, k1, k2⟩, l, w, V, v1, v2⟩ := p
  have h0 := G.1.2.2.2.2.1
  have s8 := G.1.2.2.2.1
  obtain ⟨e1, e2⟩ := Jq.day h0 (ni := ni) (m := 0) J
  show PB nw sc ni (T + 1) (P_day nw sc ni (0, L)).2 (nB (P_day nw sc ni (0, B)).2) ∧ _ = (P_day nw sc ni (0, B)).1
  have e9 : (P_begin sc L).1 9 = nI (K + 1) := by
    show u1 L.1 9 (L.1 9 + 1) 9 = _
    rw [u1_same, k2]
    exact nI_1 _
  have ge : 0 ≤ nI (K + 1) := (i_le _ _).mpr (by rw [i_0, nI_toInt (by omega)]; omega)
  obtain ⟨a1, a2, a3⟩ := sent_9 (nw := nw) ni 0 (P_trade sc (P_begin sc L)) (Lt_trade (Lt_begin l)) (by show 0 ≤ (P_begin sc L).1 9; rw [e9]; exact ge)
  have hw : (P_day nw sc ni (0, L)).2.2.1 = L.2.1 := (JE_day (q := (0, L)) h0).2.1
  refine ⟨⟨e2.t (Jq_nB s8).s, Gd_nB (Gd_day (q := (0, B)) G (by omega)), by rw [Q_c_nB s8, Q_c_day h0]; exact q, ⟨K + 1, by omega, a2.trans e9⟩, a1, fun j hj => by rw [hw]; exact w j hj, V, v1, a3.trans (Eq.trans (show u1 L.1 9 (L.1 9 + 1) 3 = L.1 3 from u1_ne (by decide)) v2)⟩, e1⟩
