/-! THE CLASS'S OWN METHODS: questions that try on the spare bureau -/
/-- the fields that no day, visit or sale writes -/
def KS (s s' : Nat → Int32) : Prop := ∀ k, 15 ≤ k → s' k = s k
def KB (c c' : Nat → Int32) : Prop := ∀ k, 12 ≤ k → c' k = c k
theorem KS_r {s : Nat → Int32} : KS s s := fun _ _ => rfl
theorem KB_r {s : Nat → Int32} : KB s s := fun _ _ => rfl
theorem KS_u {s s' : Nat → Int32} {k : Nat} {v : Int32} (h : KS s s') (hk : k < 15) : KS s (u1 s' k v) := fun j hj => (u1_ne (by omega)).trans (h j hj)
theorem KB_u {s s' : Nat → Int32} {k : Nat} {v : Int32} (h : KB s s') (hk : k < 12) : KB s (u1 s' k v) := fun j hj => (u1_ne (by omega)).trans (h j hj)
theorem KS_drift {s : Nat → Int32} : KS s (M_drift s) := KS_u KS_r (by decide)
theorem KS_straight {s s' : Nat → Int32} (h : KS s s') : KS s (M_straight s') := KS_u (KS_u h (by decide)) (by decide)
theorem KS_sell {c s : Nat → Int32} : KS s (M_sell c s) := by
  unfold M_sell
  dsimp only
  split
  · exact KS_u (KS_u (KS_u KS_r (by decide)) (by decide)) (by decide)
  · exact KS_u (KS_u KS_r (by decide)) (by decide)
theorem KS_trade {c s : Nat → Int32} : KS s (M_trade c s) := by
  unfold M_trade
  split
  · exact KS_r
  · exact KS_sell
theorem KS_vis {c s : Nat → Int32} {t : Int32} {z : Bool} : KS s (M_visS c s t z) := by
  have h1 : KS s (u1 (u1 s 10 (c 9)) 8 0) := KS_u (KS_u KS_r (by decide)) (by decide)
  have h2 : KS s (if 0 < t ∨ z = false then u1 (u1 (u1 (u1 (u1 s 10 (c 9)) 8 0) 0 (s 0 - M_fine c t z)) 13 (s 13 + M_fine c t z)) 9 (s 9 + 1) else u1 (u1 s 10 (c 9)) 8 0) := by
    split
    · exact KS_u (KS_u (KS_u h1 (by decide)) (by decide)) (by decide)
    · exact h1
  have h3 : ∀ y : Nat → Int32, KS s y → KS s (if 0 < t then M_straight y else y) := fun y hy => by
    split
    · exact KS_straight hy
    · exact hy
  have h4 : ∀ y : Nat → Int32, KS s y → KS s (if 3 ≤ y 9 then u1 y 12 0 else y) := fun y hy => by
    split
    · exact KS_u hy (by decide)
    · exact hy
  unfold M_visS
  exact h4 _ (KS_u (h3 _ h2) (by decide))
theorem KB_vis {c : Nat → Int32} {t : Int32} {z : Bool} : KB c (M_visC c t z) := by
  unfold M_visC
  dsimp only
  split
  · exact KB_u (KB_u KB_r (by decide)) (by decide)
  · exact KB_u KB_r (by decide)
/-- what a bureau holds beside its own numbers stays -/
def JE (sc : Nat) (B B' : Bu) : Prop := KB B.1 B'.1 ∧ B'.2.1 = B.2.1 ∧ (∀ i, sc ≤ i → B'.2.2 i = B.2.2 i) ∧ ∀ i, KS (B.2.2 i) (B'.2.2 i)
theorem JE_r {sc : Nat} {B : Bu} : JE sc B B := ⟨KB_r, rfl, fun _ _ => rfl, fun _ => KS_r⟩
theorem JE.trans {sc : Nat} {A B C : Bu} (h : JE sc A B) (h2 : JE sc B C) : JE sc A C := ⟨fun k hk => (h2.1 k hk).trans (h.1 k hk), h2.2.1.trans h.2.1, fun i hi => (h2.2.2.1 i hi).trans (h.2.2.1 i hi), fun i k hk => (h2.2.2.2 i k hk).trans (h.2.2.2 i k hk)⟩
theorem JE_sC {sc : Nat} {B : Bu} {c : Nat → Int32} (h : KB B.1 c) : JE sc B (sC B c) := ⟨h, rfl, fun _ _ => rfl, fun _ => KS_r⟩
theorem JE_sS {sc i : Nat} {B : Bu} {s : Nat → Int32} (hi : i < sc) (h : KS (B.2.2 i) s) : JE sc B (sS B i s) := by
  refine ⟨KB_r, rfl, fun j hj => ?_, fun j => ?_⟩
  · show u1 B.2.2 i s j = _
    rw [u1_ne (by omega)]
  · show KS _ (u1 B.2.2 i s j)
    rw [u1_at]
    split
    · next e => rw [e]; exact h
    · exact KS_r
theorem JE_ins {sc i nw : Nat} {B : Bu} (hi : i < sc) : JE sc B (P_ins B i nw) := (JE_sS hi KS_vis).trans (JE_sC (B := sS B i _) KB_vis)
theorem JE_drift {sc : Nat} {B : Bu} : JE sc B (P_drift sc B) := by
  refine ⟨KB_r, rfl, fun i hi => if_neg (by omega), fun i => ?_⟩
  show KS _ (if i < sc then M_drift (B.2.2 i) else B.2.2 i)
  split
  · exact KS_drift
  · exact KS_r
theorem JE_trade {sc : Nat} {B : Bu} : JE sc B (P_trade sc B) := by
  refine ⟨KB_r, rfl, fun i hi => if_neg (by omega), fun i => ?_⟩
  show KS _ (if i < sc then M_trade B.1 (B.2.2 i) else B.2.2 i)
  split
  · exact KS_trade
  · exact KS_r
theorem JE_begin {sc : Nat} {B : Bu} : JE sc B (P_begin sc B) := (JE_sC (B := B) (KB_u KB_r (by decide))).trans JE_drift
theorem JE_choose {sc : Nat} {B : Bu} : JE sc B (P_choose B sc).2 := by
  unfold P_choose
  split
  · exact JE_r
  · exact JE_sC (KB_u KB_r (by decide))
theorem JE_sent1 {nw sc : Nat} {q : Nat × Bu} (h0 : 0 < sc) : JE sc q.2 (P_sent1 nw sc q).2 := by
  cases e : (P_choose q.2 sc).1 with
  | none => rw [P_sent1_n e]; exact JE_choose
  | some i => rw [P_sent1_s e]; exact JE_choose.trans (JE_ins (P_choose_lt h0 e))
theorem JE_sent {nw sc : Nat} (h0 : 0 < sc) : ∀ (n : Nat) (q : Nat × Bu), JE sc q.2 (P_sent nw sc n q).2
  | 0, _ => JE_r
  | n + 1, q => (JE_sent1 h0).trans (JE_sent h0 n (P_sent1 nw sc q))
theorem JE_day {nw sc ni : Nat} {q : Nat × Bu} (h0 : 0 < sc) : JE sc q.2 (P_day nw sc ni q).2 := (JE_begin.trans JE_trade).trans (JE_sent h0 ni (q.1, P_trade sc (P_begin sc q.2)))
theorem JE_pass {nw sc ni : Nat} (h0 : 0 < sc) : ∀ (n : Nat) (q : Nat × Bu), JE sc q.2 (P_pass nw sc ni n q).2
  | 0, _ => JE_r
  | n + 1, q => (JE_day h0).trans (JE_pass h0 n (P_day nw sc ni q))
theorem JE_repair {sc i : Nat} {B : Bu} (hi : i < sc) : JE sc B (P_repair B i) := (JE_sS hi (KS_u (KS_straight KS_r) (by decide))).trans (JE_sC (B := sS B i _) (KB_u KB_r (by decide)))
theorem P_copy_JE {nw sc : Nat} {B B' X : Bu} (h : JE sc B B') : P_copy nw sc B' X = P_copy nw sc B X := by
  unfold P_copy
  refine Prod.ext (funext fun k => ?_) (Prod.ext ?_ (funext fun i => funext fun k => ?_))
  · show (if k < 12 then _ else _) = if k < 12 then _ else _
    split
    · rfl
    · exact h.1 k (by omega)
  · show (fun j => if j < nw then X.2.1 j else B'.2.1 j) = _
    rw [h.2.1]
  · show (if i < sc then M_copy 16 (B'.2.2 i) (X.2.2 i) else B'.2.2 i) k = (if i < sc then M_copy 16 (B.2.2 i) (X.2.2 i) else B.2.2 i) k
    split
    · show (if k < 16 then _ else _) = if k < 16 then _ else _
      split
      · rfl
      · exact h.2.2.2 i k (by omega)
    · next e => rw [h.2.2.1 i (by omega)]
theorem JE_copy {nw sc : Nat} {B X : Bu} : P_copy nw sc (P_copy nw sc B X) X = P_copy nw sc B X := by
  unfold P_copy
  refine Prod.ext (funext fun k => ?_) (Prod.ext (funext fun j => ?_) (funext fun i => funext fun k => ?_))
  · show (if k < 12 then X.1 k else if k < 12 then X.1 k else B.1 k) = if k < 12 then X.1 k else B.1 k
    split <;> rfl
  · show (if j < nw then X.2.1 j else if j < nw then X.2.1 j else B.2.1 j) = if j < nw then X.2.1 j else B.2.1 j
    split <;> rfl
  · show (if i < sc then M_copy 16 (if i < sc then M_copy 16 (B.2.2 i) (X.2.2 i) else B.2.2 i) (X.2.2 i) else (if i < sc then M_copy 16 (B.2.2 i) (X.2.2 i) else B.2.2 i)) k = (if i < sc then M_copy 16 (B.2.2 i) (X.2.2 i) else B.2.2 i) k
    by_cases e : i < sc
    · rw [if_pos e, if_pos e]
      show (if k < 16 then X.2.2 i k else if k < 16 then X.2.2 i k else B.2.2 i k) = if k < 16 then X.2.2 i k else B.2.2 i k
      split <;> rfl
    · rw [if_neg e, if_neg e]
theorem P_copy_s {nw sc i k : Nat} {B X : Bu} (hi : i < sc) (hk : k < 16) : (P_copy nw sc B X).2.2 i k = X.2.2 i k := by
  show (if i < sc then M_copy 16 (B.2.2 i) (X.2.2 i) else B.2.2 i) k = _
  rw [if_pos hi]
  exact if_pos hk
theorem P_copy_c {nw sc k : Nat} {B X : Bu} (hk : k < 12) : (P_copy nw sc B X).1 k = X.1 k := if_pos hk
theorem P_copy_w {nw sc j : Nat} {B X : Bu} (hj : j < nw) : (P_copy nw sc B X).2.1 j = X.2.1 j := if_pos hj
theorem Gd_copy {nw sc ni U : Nat} {B X : Bu} (h : Gd X nw sc ni U) : Gd (P_copy nw sc B X) nw sc ni U := by
  obtain ⟨⟨h1, h2, h3, h4, h5, h6, h7, ⟨sd, h8, h9⟩, h10⟩, ⟨c1, c2, c3⟩, hs⟩ := h
  refine ⟨⟨(P_copy_c (by decide)).trans h1, h2, (P_copy_c (by decide)).trans h3, h4, h5, (P_copy_c (by decide)).trans h6, h7, ⟨sd, h8, (P_copy_c (by decide)).trans h9⟩, fun i hi => by rw [P_copy_s hi (by decide)]; exact h10 i hi⟩, ⟨by rw [P_copy_c (by decide)]; exact c1, by rw [P_copy_c (by decide)]; exact c2, fun j hj => by rw [P_copy_w hj]; exact c3 j hj⟩, fun i hi => ?_⟩
  have := hs i hi
  unfold Sg at this ⊢
  rw [P_copy_s hi (by decide), P_copy_s hi (by decide), P_copy_s hi (by decide), P_copy_s hi (by decide)]
  exact this
theorem cs_noop {E : En} {Z : Mt} {h : Hp} {b : Nat} {av : List Value} {r : Option Value} (c : CR E Z av (wB h b (vB h b)) r (wB h b (vB h b))) : CR E Z av h r h := by
  rw [wB_v] at c
  exact c
theorem d_HS_nextVisited_0 : decode (mC m_HS_nextVisited) 0 = .ok (.aload_n 0, 1) := by decide +kernel
theorem d_HS_nextVisited_1 : decode (mC m_HS_nextVisited) 1 = .ok (.getfield 50, 3) := by decide +kernel
theorem d_HS_nextVisited_4 : decode (mC m_HS_nextVisited) 4 = .ok (.getfield 160, 3) := by decide +kernel
theorem d_HS_nextVisited_7 : decode (mC m_HS_nextVisited) 7 = .ok (.ifCond .ne 5, 3) := by decide +kernel
theorem d_HS_nextVisited_10 : decode (mC m_HS_nextVisited) 10 = .ok (.iconst (-1), 1) := by decide +kernel
theorem d_HS_nextVisited_11 : decode (mC m_HS_nextVisited) 11 = .ok (.ireturn, 1) := by decide +kernel
theorem d_HS_nextVisited_12 : decode (mC m_HS_nextVisited) 12 = .ok (.aload_n 0, 1) := by decide +kernel
theorem d_HS_nextVisited_13 : decode (mC m_HS_nextVisited) 13 = .ok (.getfield 24, 3) := by decide +kernel
theorem d_HS_nextVisited_16 : decode (mC m_HS_nextVisited) 16 = .ok (.aload_n 0, 1) := by decide +kernel
theorem d_HS_nextVisited_17 : decode (mC m_HS_nextVisited) 17 = .ok (.getfield 50, 3) := by decide +kernel
theorem d_HS_nextVisited_20 : decode (mC m_HS_nextVisited) 20 = .ok (.invokevirtual 92, 3) := by decide +kernel
theorem d_HS_nextVisited_23 : decode (mC m_HS_nextVisited) 23 = .ok (.aload_n 0, 1) := by decide +kernel
theorem d_HS_nextVisited_24 : decode (mC m_HS_nextVisited) 24 = .ok (.getfield 24, 3) := by decide +kernel
theorem d_HS_nextVisited_27 : decode (mC m_HS_nextVisited) 27 = .ok (.invokevirtual 261, 3) := by decide +kernel
theorem d_HS_nextVisited_30 : decode (mC m_HS_nextVisited) 30 = .ok (.aload_n 0, 1) := by decide +kernel
theorem d_HS_nextVisited_31 : decode (mC m_HS_nextVisited) 31 = .ok (.getfield 24, 3) := by decide +kernel
theorem d_HS_nextVisited_34 : decode (mC m_HS_nextVisited) 34 = .ok (.invokevirtual 274, 3) := by decide +kernel
theorem d_HS_nextVisited_37 : decode (mC m_HS_nextVisited) 37 = .ok (.aload_n 0, 1) := by decide +kernel
theorem d_HS_nextVisited_38 : decode (mC m_HS_nextVisited) 38 = .ok (.getfield 24, 3) := by decide +kernel
theorem d_HS_nextVisited_41 : decode (mC m_HS_nextVisited) 41 = .ok (.invokevirtual 277, 3) := by decide +kernel
theorem d_HS_nextVisited_44 : decode (mC m_HS_nextVisited) 44 = .ok (.ireturn, 1) := by decide +kernel
set_option maxRecDepth 20000 in
theorem cs_HS_nextVisitedZ {E : En} {h : Hp} {x b nw sc ni U : Nat} {B : Bu} (k_x : hK h x = 1) (r_x_2 : hR h x 2 = some b) (hB : BuOk h b) (hG : Gd B nw sc ni U) (hn0 : B.1 5 = 0) : CR E m_HS_nextVisited [.ref x] (wB h b B) (some (.int (-1))) (wB h b B) := by
  refine ct_of rfl (by decide +kernel) (Nat.le_of_ble_eq_true rfl) ?_
  show G E m_HS_nextVisited 0 [(0, .ref x)] [] (wB h b B) 0 0 _ noX
  obtain ⟨hw, hn, hs, hm, h0, hni, n3, ⟨sd, hsd, hsx⟩, hop⟩ := id hG.1
  refine g_aload_n (pc := 0) d_HS_nextVisited_0 rfl 0 rfl ?_
  refine g_getR (pc := 1) (ci := 0) (f := 2) (b := b) rfl r_x_2 d_HS_nextVisited_1 fl_HS_50 (by decide) k_x ?_
  refine g_bgI (pc := 4) (f := 5) rfl d_HS_nextVisited_4 fl_HS_160 hB ?_
  refine g_if_ne (pc := 7) (tgt := 12) d_HS_nextVisited_7 (by decide) (fun c_7 => ?_) (fun c_7 => ?_)
  · exact absurd hn0 c_7
  · skip
    refine g_iconst (pc := 10) (v := (-1)) d_HS_nextVisited_10 (by decide) ?_
    refine g_iret (pc := 11) d_HS_nextVisited_11 rfl ?_
    exact ⟨rfl, rfl⟩
set_option maxRecDepth 20000 in
theorem cs_HS_nextVisited {E : En} {h : Hp} {x b nb nw sc ni U : Nat} {C9 : Bu} (k_x : hK h x = 1) (r_x_2 : hR h x 2 = some nb) (r_x_3 : hR h x 3 = some b) (hN : BuOk h nb) (hB : BuOk h b) (hD : Dis h b nb) (hG : Gd (vB h nb) nw sc ni U) (hC9 : C9 = P_copy nw sc (vB h b) (vB h nb)) (hn0 : ¬ (vB h nb).1 5 = 0) (hU : U < 2000000000) : CR E m_HS_nextVisited [.ref x] h (some (.int (oI (P_choose (P_trade sc (P_begin sc C9)) sc).1))) (wB h b (P_choose (P_trade sc (P_begin sc C9)) sc).2) := by
  refine ct_of rfl (by decide +kernel) (Nat.le_of_ble_eq_true rfl) ?_
  show G E m_HS_nextVisited 0 [(0, .ref x)] [] h 0 0 _ noX
  have hG9 : Gd C9 nw sc ni U := by rw [hC9]; exact Gd_copy hG
  obtain ⟨hw9, hn9, hs9, hm9, -, -, -, -, hop9⟩ := id hG.1
  obtain ⟨hw, hn, hs, hm, h0, hni, n3, ⟨sd, hsd, hsx⟩, hop⟩ := id hG9.1
  refine g_aload_n (pc := 0) d_HS_nextVisited_0 rfl 0 rfl ?_
  refine g_getR (pc := 1) (ci := 0) (f := 2) (b := nb) rfl r_x_2 d_HS_nextVisited_1 fl_HS_50 (by decide) k_x ?_
  refine g_h (h' := wB h nb (vB h nb)) wB_v.symm ?_
  refine g_bgI (pc := 4) (f := 5) rfl d_HS_nextVisited_4 fl_HS_160 hN ?_
  refine g_h (h' := h) wB_v ?_
  refine g_if_ne (pc := 7) (tgt := 12) d_HS_nextVisited_7 (by decide) (fun c_7 => ?_) (fun c_7 => ?_)
  · skip
    refine g_aload_n (pc := 12) d_HS_nextVisited_12 rfl 0 rfl ?_
    refine g_getR (pc := 13) (ci := 0) (f := 3) (b := b) rfl r_x_3 d_HS_nextVisited_13 fl_HS_24 (by decide) k_x ?_
    refine g_aload_n (pc := 16) d_HS_nextVisited_16 rfl 0 rfl ?_
    refine g_getR (pc := 17) (ci := 0) (f := 2) (b := nb) rfl r_x_2 d_HS_nextVisited_17 fl_HS_50 (by decide) k_x ?_
    refine g_h (h' := wB h b (vB h b)) wB_v.symm ?_
    refine g_cV0 (pc := 20) (ci := 4) (As := [.ref _]) d_HS_nextVisited_20 rfl mv_BU_copyFrom st_HS_nextVisited_92 rfl rfl (by decide) rfl rfl (Nat.le_of_ble_eq_true rfl) hB.1 (cb_copyFrom hB hN hD hw9 hn9 hs9 hm9 hop9) ?_
    rw [← hC9]
    refine g_aload_n (pc := 23) d_HS_nextVisited_23 rfl 0 rfl ?_
    refine g_getR (pc := 24) (ci := 0) (f := 3) (b := b) rfl r_x_3 d_HS_nextVisited_24 fl_HS_24 (by decide) k_x ?_
    refine g_cV0 (pc := 27) (ci := 4) (As := []) d_HS_nextVisited_27 rfl mv_BU_beginDay st_HS_nextVisited_261 rfl rfl (by decide) rfl rfl (Nat.le_of_ble_eq_true rfl) hB.1 (cb_beginDay hB hs hm) ?_
    refine g_aload_n (pc := 30) d_HS_nextVisited_30 rfl 0 rfl ?_
    refine g_getR (pc := 31) (ci := 0) (f := 3) (b := b) rfl r_x_3 d_HS_nextVisited_31 fl_HS_24 (by decide) k_x ?_
    refine g_cV0 (pc := 34) (ci := 4) (As := []) d_HS_nextVisited_34 rfl mv_BU_trade st_HS_nextVisited_274 rfl rfl (by decide) rfl rfl (Nat.le_of_ble_eq_true rfl) hB.1 (cb_trade hB hs hm) ?_
    refine g_aload_n (pc := 37) d_HS_nextVisited_37 rfl 0 rfl ?_
    refine g_getR (pc := 38) (ci := 0) (f := 3) (b := b) rfl r_x_3 d_HS_nextVisited_38 fl_HS_24 (by decide) k_x ?_
    refine g_cV1 (pc := 41) (ci := 4) (As := []) d_HS_nextVisited_41 rfl mv_BU_chooseShop st_HS_nextVisited_277 rfl rfl (by decide) rfl rfl (Nat.le_of_ble_eq_true rfl) hB.1 (cb_chooseShop hB (Gd_trade (Gd_begin hG9) hU).1) ?_
    refine g_iret (pc := 44) d_HS_nextVisited_44 rfl ?_
    exact ⟨rfl, rfl⟩
  · exact absurd c_7 hn0
theorem d_HS_nextGain_0 : decode (mC m_HS_nextGain) 0 = .ok (.aload_n 0, 1) := by decide +kernel
theorem d_HS_nextGain_1 : decode (mC m_HS_nextGain) 1 = .ok (.iload_n 1, 1) := by decide +kernel
theorem d_HS_nextGain_2 : decode (mC m_HS_nextGain) 2 = .ok (.invokevirtual 258, 3) := by decide +kernel
theorem d_HS_nextGain_5 : decode (mC m_HS_nextGain) 5 = .ok (.aload_n 0, 1) := by decide +kernel
theorem d_HS_nextGain_6 : decode (mC m_HS_nextGain) 6 = .ok (.getfield 24, 3) := by decide +kernel
theorem d_HS_nextGain_9 : decode (mC m_HS_nextGain) 9 = .ok (.aload_n 0, 1) := by decide +kernel
theorem d_HS_nextGain_10 : decode (mC m_HS_nextGain) 10 = .ok (.getfield 50, 3) := by decide +kernel
theorem d_HS_nextGain_13 : decode (mC m_HS_nextGain) 13 = .ok (.invokevirtual 92, 3) := by decide +kernel
theorem d_HS_nextGain_16 : decode (mC m_HS_nextGain) 16 = .ok (.aload_n 0, 1) := by decide +kernel
theorem d_HS_nextGain_17 : decode (mC m_HS_nextGain) 17 = .ok (.getfield 24, 3) := by decide +kernel
theorem d_HS_nextGain_20 : decode (mC m_HS_nextGain) 20 = .ok (.invokevirtual 261, 3) := by decide +kernel
theorem d_HS_nextGain_23 : decode (mC m_HS_nextGain) 23 = .ok (.aload_n 0, 1) := by decide +kernel
theorem d_HS_nextGain_24 : decode (mC m_HS_nextGain) 24 = .ok (.getfield 24, 3) := by decide +kernel
theorem d_HS_nextGain_27 : decode (mC m_HS_nextGain) 27 = .ok (.getfield 264, 3) := by decide +kernel
theorem d_HS_nextGain_30 : decode (mC m_HS_nextGain) 30 = .ok (.iload_n 1, 1) := by decide +kernel
theorem d_HS_nextGain_31 : decode (mC m_HS_nextGain) 31 = .ok (.aaload, 1) := by decide +kernel
theorem d_HS_nextGain_32 : decode (mC m_HS_nextGain) 32 = .ok (.astore_n 2, 1) := by decide +kernel
theorem d_HS_nextGain_33 : decode (mC m_HS_nextGain) 33 = .ok (.aload_n 2, 1) := by decide +kernel
theorem d_HS_nextGain_34 : decode (mC m_HS_nextGain) 34 = .ok (.getfield 123, 3) := by decide +kernel
theorem d_HS_nextGain_37 : decode (mC m_HS_nextGain) 37 = .ok (.ifCond .eq 25, 3) := by decide +kernel
theorem d_HS_nextGain_40 : decode (mC m_HS_nextGain) 40 = .ok (.aload_n 0, 1) := by decide +kernel
theorem d_HS_nextGain_41 : decode (mC m_HS_nextGain) 41 = .ok (.getfield 24, 3) := by decide +kernel
theorem d_HS_nextGain_44 : decode (mC m_HS_nextGain) 44 = .ok (.aload_n 2, 1) := by decide +kernel
theorem d_HS_nextGain_45 : decode (mC m_HS_nextGain) 45 = .ok (.aload_n 2, 1) := by decide +kernel
theorem d_HS_nextGain_46 : decode (mC m_HS_nextGain) 46 = .ok (.aload_n 0, 1) := by decide +kernel
theorem d_HS_nextGain_47 : decode (mC m_HS_nextGain) 47 = .ok (.getfield 24, 3) := by decide +kernel
theorem d_HS_nextGain_50 : decode (mC m_HS_nextGain) 50 = .ok (.getfield 177, 3) := by decide +kernel
theorem d_HS_nextGain_53 : decode (mC m_HS_nextGain) 53 = .ok (.invokevirtual 268, 3) := by decide +kernel
theorem d_HS_nextGain_56 : decode (mC m_HS_nextGain) 56 = .ok (.invokevirtual 271, 3) := by decide +kernel
theorem d_HS_nextGain_59 : decode (mC m_HS_nextGain) 59 = .ok (.goto 4, 3) := by decide +kernel
theorem d_HS_nextGain_62 : decode (mC m_HS_nextGain) 62 = .ok (.iconst 0, 1) := by decide +kernel
theorem d_HS_nextGain_63 : decode (mC m_HS_nextGain) 63 = .ok (.ireturn, 1) := by decide +kernel
set_option maxRecDepth 20000 in
theorem cs_HS_nextGain {E : En} {h : Hp} {x b nb nw sc ni U : Nat} {C9 : Bu} {i : Nat} (k_x : hK h x = 1) (r_x_2 : hR h x 2 = some nb) (r_x_3 : hR h x 3 = some b) (hN : BuOk h nb) (hB : BuOk h b) (hD : Dis h b nb) (hG : Gd (vB h nb) nw sc ni U) (hC9 : C9 = P_copy nw sc (vB h b) (vB h nb)) (hi : i < sc) (hop1 : C9.2.2 i 12 = 1) : CR E m_HS_nextGain [.ref x, .int (nI i)] h (some (.int (M_gain (u1 C9.1 9 (C9.1 9 + 1)) (M_drift (C9.2.2 i)) (M_false (M_drift (C9.2.2 i)) (C9.1 9 + 1))))) (wB h b (P_begin sc C9)) := by
  refine ct_of rfl (by decide +kernel) (Nat.le_of_ble_eq_true rfl) ?_
  show G E m_HS_nextGain 0 [(0, .ref x), (1, .int (nI i))] [] h 0 0 _ noX
  have hG9 : Gd C9 nw sc ni U := by rw [hC9]; exact Gd_copy hG
  obtain ⟨hw9, hn9, hs9, hm9, -, -, -, -, hop9⟩ := id hG.1
  obtain ⟨hw, hn, hs, hm, h0, hni, n3, ⟨sd, hsd, hsx⟩, hop⟩ := id hG9.1
  refine g_aload_n (pc := 0) d_HS_nextGain_0 rfl 0 rfl ?_
  refine g_iload_n (pc := 1) d_HS_nextGain_1 rfl 1 rfl ?_
  refine g_cV0 (pc := 2) (ci := 0) (As := [.int _]) d_HS_nextGain_2 rfl mv_HS_requireShop st_HS_nextGain_258 rfl rfl (by decide) rfl rfl (Nat.le_of_ble_eq_true rfl) k_x (cs_noop (cs_HS_requireShop k_x r_x_2 hN hG hi) ) ?_
  refine g_aload_n (pc := 5) d_HS_nextGain_5 rfl 0 rfl ?_
  refine g_getR (pc := 6) (ci := 0) (f := 3) (b := b) rfl r_x_3 d_HS_nextGain_6 fl_HS_24 (by decide) k_x ?_
  refine g_aload_n (pc := 9) d_HS_nextGain_9 rfl 0 rfl ?_
  refine g_getR (pc := 10) (ci := 0) (f := 2) (b := nb) rfl r_x_2 d_HS_nextGain_10 fl_HS_50 (by decide) k_x ?_
  refine g_h (h' := wB h b (vB h b)) wB_v.symm ?_
  refine g_cV0 (pc := 13) (ci := 4) (As := [.ref _]) d_HS_nextGain_13 rfl mv_BU_copyFrom st_HS_nextGain_92 rfl rfl (by decide) rfl rfl (Nat.le_of_ble_eq_true rfl) hB.1 (cb_copyFrom hB hN hD hw9 hn9 hs9 hm9 hop9) ?_
  rw [← hC9]
  refine g_aload_n (pc := 16) d_HS_nextGain_16 rfl 0 rfl ?_
  refine g_getR (pc := 17) (ci := 0) (f := 3) (b := b) rfl r_x_3 d_HS_nextGain_17 fl_HS_24 (by decide) k_x ?_
  refine g_cV0 (pc := 20) (ci := 4) (As := []) d_HS_nextGain_20 rfl mv_BU_beginDay st_HS_nextGain_261 rfl rfl (by decide) rfl rfl (Nat.le_of_ble_eq_true rfl) hB.1 (cb_beginDay hB hs hm) ?_
  refine g_aload_n (pc := 23) d_HS_nextGain_23 rfl 0 rfl ?_
  refine g_getR (pc := 24) (ci := 0) (f := 3) (b := b) rfl r_x_3 d_HS_nextGain_24 fl_HS_24 (by decide) k_x ?_
  refine g_bgS (pc := 27) d_HS_nextGain_27 fl_HS_264 hB ?_
  refine g_iload_n (pc := 30) d_HS_nextGain_30 rfl 1 rfl ?_
  refine g_bsl (pc := 31) d_HS_nextGain_31 hB (by first | assumption | omega | decide) ?_
  refine g_astore_n (pc := 32) (lv' := [(2, .ref (sh h b i)), (0, .ref x), (1, .int (nI i))]) d_HS_nextGain_32 rfl (by decide) rfl ?_
  have es : (P_begin sc C9).2.2 i = M_drift (C9.2.2 i) := if_pos hi
  have eo : (P_begin sc C9).2.2 i 12 = C9.2.2 i 12 := by rw [es]; exact u1_ne (by omega)
  refine g_aload_n (pc := 33) d_HS_nextGain_33 rfl 0 rfl ?_
  refine g_sgI (pc := 34) (f := 12) rfl d_HS_nextGain_34 fl_HS_123 hB (by first | assumption | omega | decide) ?_
  refine g_if_eq (pc := 37) (tgt := 62) d_HS_nextGain_37 (by decide) (fun c_37 => ?_) (fun c_37 => ?_)
  · rw [eo, hop1] at c_37; exact absurd c_37 (by decide)
  · skip
    refine g_aload_n (pc := 40) d_HS_nextGain_40 rfl 1 rfl ?_
    refine g_getR (pc := 41) (ci := 0) (f := 3) (b := b) rfl r_x_3 d_HS_nextGain_41 fl_HS_24 (by decide) k_x ?_
    refine g_aload_n (pc := 44) d_HS_nextGain_44 rfl 0 rfl ?_
    refine g_aload_n (pc := 45) d_HS_nextGain_45 rfl 0 rfl ?_
    refine g_aload_n (pc := 46) d_HS_nextGain_46 rfl 1 rfl ?_
    refine g_getR (pc := 47) (ci := 0) (f := 3) (b := b) rfl r_x_3 d_HS_nextGain_47 fl_HS_24 (by decide) k_x ?_
    refine g_bgI (pc := 50) (f := 9) rfl d_HS_nextGain_50 fl_HS_177 hB ?_
    refine g_cV1 (pc := 53) (ci := 5) (As := [.int _]) d_HS_nextGain_53 rfl mv_SH_falseGramsOn st_HS_nextGain_268 rfl rfl (by decide) rfl rfl (Nat.le_of_ble_eq_true rfl) (hB.sk (by first | assumption | omega | decide)) (cb_falseGramsOn hB (by first | assumption | omega | decide)) ?_
    refine g_cV1 (pc := 56) (ci := 4) (As := [.ref _, .int _]) d_HS_nextGain_56 rfl mv_BU_gainFor st_HS_nextGain_271 rfl rfl (by decide) rfl rfl (Nat.le_of_ble_eq_true rfl) hB.1 (cb_gainFor hB (by first | assumption | omega | decide)) ?_
    refine g_goto (pc := 59) (tgt := 63) d_HS_nextGain_59 (by decide) ?_
    refine g_iret (pc := 63) d_HS_nextGain_63 rfl ?_
    rw [es]
    exact ⟨rfl, rfl⟩
set_option maxRecDepth 20000 in
theorem cs_HS_nextGainC {E : En} {h : Hp} {x b nb nw sc ni U : Nat} {C9 : Bu} {i : Nat} (k_x : hK h x = 1) (r_x_2 : hR h x 2 = some nb) (r_x_3 : hR h x 3 = some b) (hN : BuOk h nb) (hB : BuOk h b) (hD : Dis h b nb) (hG : Gd (vB h nb) nw sc ni U) (hC9 : C9 = P_copy nw sc (vB h b) (vB h nb)) (hi : i < sc) (hop1 : C9.2.2 i 12 = 0) : CR E m_HS_nextGain [.ref x, .int (nI i)] h (some (.int 0)) (wB h b (P_begin sc C9)) := by
  refine ct_of rfl (by decide +kernel) (Nat.le_of_ble_eq_true rfl) ?_
  show G E m_HS_nextGain 0 [(0, .ref x), (1, .int (nI i))] [] h 0 0 _ noX
  have hG9 : Gd C9 nw sc ni U := by rw [hC9]; exact Gd_copy hG
  obtain ⟨hw9, hn9, hs9, hm9, -, -, -, -, hop9⟩ := id hG.1
  obtain ⟨hw, hn, hs, hm, h0, hni, n3, ⟨sd, hsd, hsx⟩, hop⟩ := id hG9.1
  refine g_aload_n (pc := 0) d_HS_nextGain_0 rfl 0 rfl ?_
  refine g_iload_n (pc := 1) d_HS_nextGain_1 rfl 1 rfl ?_
  refine g_cV0 (pc := 2) (ci := 0) (As := [.int _]) d_HS_nextGain_2 rfl mv_HS_requireShop st_HS_nextGain_258 rfl rfl (by decide) rfl rfl (Nat.le_of_ble_eq_true rfl) k_x (cs_noop (cs_HS_requireShop k_x r_x_2 hN hG hi) ) ?_
  refine g_aload_n (pc := 5) d_HS_nextGain_5 rfl 0 rfl ?_
  refine g_getR (pc := 6) (ci := 0) (f := 3) (b := b) rfl r_x_3 d_HS_nextGain_6 fl_HS_24 (by decide) k_x ?_
  refine g_aload_n (pc := 9) d_HS_nextGain_9 rfl 0 rfl ?_
  refine g_getR (pc := 10) (ci := 0) (f := 2) (b := nb) rfl r_x_2 d_HS_nextGain_10 fl_HS_50 (by decide) k_x ?_
  refine g_h (h' := wB h b (vB h b)) wB_v.symm ?_
  refine g_cV0 (pc := 13) (ci := 4) (As := [.ref _]) d_HS_nextGain_13 rfl mv_BU_copyFrom st_HS_nextGain_92 rfl rfl (by decide) rfl rfl (Nat.le_of_ble_eq_true rfl) hB.1 (cb_copyFrom hB hN hD hw9 hn9 hs9 hm9 hop9) ?_
  rw [← hC9]
  refine g_aload_n (pc := 16) d_HS_nextGain_16 rfl 0 rfl ?_
  refine g_getR (pc := 17) (ci := 0) (f := 3) (b := b) rfl r_x_3 d_HS_nextGain_17 fl_HS_24 (by decide) k_x ?_
  refine g_cV0 (pc := 20) (ci := 4) (As := []) d_HS_nextGain_20 rfl mv_BU_beginDay st_HS_nextGain_261 rfl rfl (by decide) rfl rfl (Nat.le_of_ble_eq_true rfl) hB.1 (cb_beginDay hB hs hm) ?_
  refine g_aload_n (pc := 23) d_HS_nextGain_23 rfl 0 rfl ?_
  refine g_getR (pc := 24) (ci := 0) (f := 3) (b := b) rfl r_x_3 d_HS_nextGain_24 fl_HS_24 (by decide) k_x ?_
  refine g_bgS (pc := 27) d_HS_nextGain_27 fl_HS_264 hB ?_
  refine g_iload_n (pc := 30) d_HS_nextGain_30 rfl 1 rfl ?_
  refine g_bsl (pc := 31) d_HS_nextGain_31 hB (by first | assumption | omega | decide) ?_
  refine g_astore_n (pc := 32) (lv' := [(2, .ref (sh h b i)), (0, .ref x), (1, .int (nI i))]) d_HS_nextGain_32 rfl (by decide) rfl ?_
  have es : (P_begin sc C9).2.2 i = M_drift (C9.2.2 i) := if_pos hi
  have eo : (P_begin sc C9).2.2 i 12 = C9.2.2 i 12 := by rw [es]; exact u1_ne (by omega)
  refine g_aload_n (pc := 33) d_HS_nextGain_33 rfl 0 rfl ?_
  refine g_sgI (pc := 34) (f := 12) rfl d_HS_nextGain_34 fl_HS_123 hB (by first | assumption | omega | decide) ?_
  refine g_if_eq (pc := 37) (tgt := 62) d_HS_nextGain_37 (by decide) (fun c_37 => ?_) (fun c_37 => ?_)
  · skip
    refine g_iconst (pc := 62) (v := 0) d_HS_nextGain_62 (by decide) ?_
    refine g_iret (pc := 63) d_HS_nextGain_63 rfl ?_
    exact ⟨rfl, rfl⟩
  · exact absurd (eo.trans hop1) c_37
theorem d_HS_purseAfter_0 : decode (mC m_HS_purseAfter) 0 = .ok (.aload_n 0, 1) := by decide +kernel
theorem d_HS_purseAfter_1 : decode (mC m_HS_purseAfter) 1 = .ok (.iload_n 1, 1) := by decide +kernel
theorem d_HS_purseAfter_2 : decode (mC m_HS_purseAfter) 2 = .ok (.invokevirtual 258, 3) := by decide +kernel
theorem d_HS_purseAfter_5 : decode (mC m_HS_purseAfter) 5 = .ok (.iload_n 2, 1) := by decide +kernel
theorem d_HS_purseAfter_6 : decode (mC m_HS_purseAfter) 6 = .ok (.iconst 0, 1) := by decide +kernel
theorem d_HS_purseAfter_7 : decode (mC m_HS_purseAfter) 7 = .ok (.sipush 200, 3) := by decide +kernel
theorem d_HS_purseAfter_10 : decode (mC m_HS_purseAfter) 10 = .ok (.invokestatic 70, 3) := by decide +kernel
theorem d_HS_purseAfter_13 : decode (mC m_HS_purseAfter) 13 = .ok (.aload_n 0, 1) := by decide +kernel
theorem d_HS_purseAfter_14 : decode (mC m_HS_purseAfter) 14 = .ok (.getfield 24, 3) := by decide +kernel
theorem d_HS_purseAfter_17 : decode (mC m_HS_purseAfter) 17 = .ok (.aload_n 0, 1) := by decide +kernel
theorem d_HS_purseAfter_18 : decode (mC m_HS_purseAfter) 18 = .ok (.getfield 50, 3) := by decide +kernel
theorem d_HS_purseAfter_21 : decode (mC m_HS_purseAfter) 21 = .ok (.invokevirtual 92, 3) := by decide +kernel
theorem d_HS_purseAfter_24 : decode (mC m_HS_purseAfter) 24 = .ok (.aload_n 0, 1) := by decide +kernel
theorem d_HS_purseAfter_25 : decode (mC m_HS_purseAfter) 25 = .ok (.getfield 24, 3) := by decide +kernel
theorem d_HS_purseAfter_28 : decode (mC m_HS_purseAfter) 28 = .ok (.iload_n 2, 1) := by decide +kernel
theorem d_HS_purseAfter_29 : decode (mC m_HS_purseAfter) 29 = .ok (.invokevirtual 115, 3) := by decide +kernel
theorem d_HS_purseAfter_32 : decode (mC m_HS_purseAfter) 32 = .ok (.pop, 1) := by decide +kernel
theorem d_HS_purseAfter_33 : decode (mC m_HS_purseAfter) 33 = .ok (.aload_n 0, 1) := by decide +kernel
theorem d_HS_purseAfter_34 : decode (mC m_HS_purseAfter) 34 = .ok (.getfield 24, 3) := by decide +kernel
theorem d_HS_purseAfter_37 : decode (mC m_HS_purseAfter) 37 = .ok (.getfield 264, 3) := by decide +kernel
theorem d_HS_purseAfter_40 : decode (mC m_HS_purseAfter) 40 = .ok (.iload_n 1, 1) := by decide +kernel
theorem d_HS_purseAfter_41 : decode (mC m_HS_purseAfter) 41 = .ok (.aaload, 1) := by decide +kernel
theorem d_HS_purseAfter_42 : decode (mC m_HS_purseAfter) 42 = .ok (.getfield 144, 3) := by decide +kernel
theorem d_HS_purseAfter_45 : decode (mC m_HS_purseAfter) 45 = .ok (.ireturn, 1) := by decide +kernel
set_option maxRecDepth 20000 in
theorem cs_HS_purseAfter {E : En} {h : Hp} {x b nb nw sc ni U : Nat} {C9 : Bu} {i : Nat} {days : Nat} (k_x : hK h x = 1) (r_x_2 : hR h x 2 = some nb) (r_x_3 : hR h x 3 = some b) (hN : BuOk h nb) (hB : BuOk h b) (hD : Dis h b nb) (hG : Gd (vB h nb) nw sc ni U) (hC9 : C9 = P_copy nw sc (vB h b) (vB h nb)) (hi : i < sc) (hdy : days < 1000) (hr1 : (0 : Int32) ≤ nI days) (hr2 : nI days ≤ 200) : CR E m_HS_purseAfter [.ref x, .int (nI i), .int (nI days)] h (some (.int (Q_purse C9 nw sc ni i days))) (wB h b (P_pass nw sc ni days (0, C9)).2) := by
  refine ct_of rfl (by decide +kernel) (Nat.le_of_ble_eq_true rfl) ?_
  show G E m_HS_purseAfter 0 [(0, .ref x), (1, .int (nI i)), (2, .int (nI days))] [] h 0 0 _ noX
  have hG9 : Gd C9 nw sc ni U := by rw [hC9]; exact Gd_copy hG
  obtain ⟨hw9, hn9, hs9, hm9, -, -, -, -, hop9⟩ := id hG.1
  obtain ⟨hw, hn, hs, hm, h0, hni, n3, ⟨sd, hsd, hsx⟩, hop⟩ := id hG9.1
  refine g_aload_n (pc := 0) d_HS_purseAfter_0 rfl 0 rfl ?_
  refine g_iload_n (pc := 1) d_HS_purseAfter_1 rfl 1 rfl ?_
  refine g_cV0 (pc := 2) (ci := 0) (As := [.int _]) d_HS_purseAfter_2 rfl mv_HS_requireShop st_HS_purseAfter_258 rfl rfl (by decide) rfl rfl (Nat.le_of_ble_eq_true rfl) k_x (cs_noop (cs_HS_requireShop k_x r_x_2 hN hG hi) ) ?_
  refine g_iload_n (pc := 5) d_HS_purseAfter_5 rfl 2 rfl ?_
  refine g_iconst (pc := 6) (v := 0) d_HS_purseAfter_6 (by decide) ?_
  refine g_sipush (pc := 7) (v := 200) d_HS_purseAfter_7 (by decide) ?_
  refine g_cS0 (pc := 10) (As := [.int _, .int _, .int _]) d_HS_purseAfter_10 rfl ms_HS_requireRange st_HS_purseAfter_70 rfl rfl (Nat.le_of_ble_eq_true rfl) (cs_HS_requireRange hr1 hr2) ?_
  refine g_aload_n (pc := 13) d_HS_purseAfter_13 rfl 0 rfl ?_
  refine g_getR (pc := 14) (ci := 0) (f := 3) (b := b) rfl r_x_3 d_HS_purseAfter_14 fl_HS_24 (by decide) k_x ?_
  refine g_aload_n (pc := 17) d_HS_purseAfter_17 rfl 0 rfl ?_
  refine g_getR (pc := 18) (ci := 0) (f := 2) (b := nb) rfl r_x_2 d_HS_purseAfter_18 fl_HS_50 (by decide) k_x ?_
  refine g_h (h' := wB h b (vB h b)) wB_v.symm ?_
  refine g_cV0 (pc := 21) (ci := 4) (As := [.ref _]) d_HS_purseAfter_21 rfl mv_BU_copyFrom st_HS_purseAfter_92 rfl rfl (by decide) rfl rfl (Nat.le_of_ble_eq_true rfl) hB.1 (cb_copyFrom hB hN hD hw9 hn9 hs9 hm9 hop9) ?_
  rw [← hC9]
  refine g_aload_n (pc := 24) d_HS_purseAfter_24 rfl 0 rfl ?_
  refine g_getR (pc := 25) (ci := 0) (f := 3) (b := b) rfl r_x_3 d_HS_purseAfter_25 fl_HS_24 (by decide) k_x ?_
  refine g_iload_n (pc := 28) d_HS_purseAfter_28 rfl 2 rfl ?_
  refine g_cV1 (pc := 29) (ci := 4) (As := [.int _]) d_HS_purseAfter_29 rfl mv_BU_passMany st_HS_purseAfter_115 rfl rfl (by decide) rfl rfl (Nat.le_of_ble_eq_true rfl) hB.1 (cb_passMany hB hG9.1 (by omega)) ?_
  refine g_pop (pc := 32) d_HS_purseAfter_32 rfl ?_
  refine g_aload_n (pc := 33) d_HS_purseAfter_33 rfl 0 rfl ?_
  refine g_getR (pc := 34) (ci := 0) (f := 3) (b := b) rfl r_x_3 d_HS_purseAfter_34 fl_HS_24 (by decide) k_x ?_
  refine g_bgS (pc := 37) d_HS_purseAfter_37 fl_HS_264 hB ?_
  refine g_iload_n (pc := 40) d_HS_purseAfter_40 rfl 1 rfl ?_
  refine g_bsl (pc := 41) d_HS_purseAfter_41 hB (by first | assumption | omega | decide) ?_
  refine g_sgI (pc := 42) (f := 0) rfl d_HS_purseAfter_42 fl_HS_144 hB (by first | assumption | omega | decide) ?_
  refine g_iret (pc := 45) d_HS_purseAfter_45 rfl ?_
  exact ⟨rfl, rfl⟩
