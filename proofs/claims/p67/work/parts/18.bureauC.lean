theorem g_top {E : En} {M : Mt} {pc : Nat} {lv : List (Nat × Value)} {st : List Value} {h : Hp} {k n : Nat} {P : Option Value → Hp → Prop} {X : String → Hp → Prop} {x y : Int32} (e : x = y) (kk : G E M pc lv (.int y :: st) h k n P X) : G E M pc lv (.int x :: st) h k n P X := by rw [e]; exact kk
theorem nI_mul (a b : Nat) : nI a * nI b = nI (a * b) := (Int32.ofNat_mul a b).symm
theorem nI_div {a b : Nat} (ha : a < 2 ^ 31) (hb : b < 2 ^ 31) (h0 : 0 < b) : nI a / nI b = nI (a / b) := by
  refine Int32.toInt_inj.mp ?_
  have h1 : a / b < 2 ^ 31 := Nat.lt_of_le_of_lt (Nat.div_le_self a b) ha
  have h2 : ¬ nI a = Int32.minValue := fun e => nI_pos ha (by rw [e]; decide)
  rw [Int32.toInt_div_of_ne_left _ _ h2, nI_toInt ha, nI_toInt hb, nI_toInt h1, Int.tdiv_eq_ediv_of_nonneg (Int.natCast_nonneg a)]
  exact (Int.natCast_ediv a b).symm
theorem nI_rem {a b : Nat} (ha : a < 2 ^ 31) (hb : b < 2 ^ 31) (h0 : 0 < b) : nI a - nI a / nI b * nI b = nI (a % b) := by
  rw [nI_div ha hb h0, nI_mul]
  have e : nI (a % b) + nI (a / b * b) = nI a := by rw [nI_add, Nat.mul_comm]; exact congrArg nI (Nat.mod_add_div a b)
  rw [← e, Int32.add_sub_cancel]
theorem seed_eq {sd : Nat} (h : sd ≤ 65536) : 75 * nI sd + 74 - (75 * nI sd + 74) / 65537 * 65537 = nI (M_seed (nI sd)) := by
  show nI 75 * nI sd + nI 74 - (nI 75 * nI sd + nI 74) / nI 65537 * nI 65537 = _
  rw [nI_mul, nI_add, nI_rem (by omega) (by omega) (by omega)]
  unfold M_seed
  rw [nI_clamp (by omega)]
theorem M_seed_lt (x : Int32) : M_seed x ≤ 65536 := by unfold M_seed; omega
theorem P_most_lt (B : Bu) : ∀ n i, (P_most B n).1 = some i → i < n
  | 0, i, h => by cases h
  | n + 1, i, h => by
    rw [P_most] at h
    split at h
    · cases h; exact Nat.lt_succ_self _
    · exact Nat.lt_succ_of_lt (P_most_lt B n i h)
theorem P_next_lt (B : Bu) (sc : Nat) : ∀ d j i, j < sc → P_next B sc d j = some i → i < sc
  | 0, j, i, hj, h => by cases h
  | d + 1, j, i, hj, h => by
    rw [P_next] at h
    split at h
    · cases h; exact hj
    · exact P_next_lt B sc d _ i (by split <;> omega) h
theorem oI_m1 {o : Option Nat} (h : ∀ i, o = some i → i < 8) : oI o = -1 ↔ o = none := by
  cases o with
  | none => exact ⟨fun _ => rfl, fun _ => rfl⟩
  | some i =>
    refine ⟨fun e => ?_, fun e => by cases e⟩
    have h8 := h i rfl
    exact absurd (show nI i < 0 by rw [show nI i = -1 from e]; decide) (nI_pos (by omega))
theorem P_choose_lt {B : Bu} {sc i : Nat} (h0 : 0 < sc) (h : (P_choose B sc).1 = some i) : i < sc := by
  unfold P_choose at h
  split at h
  · exact P_most_lt B sc i h
  · exact P_next_lt _ sc sc _ i (Nat.mod_lt _ h0) h
theorem M_drift_at (s : Nat → Int32) {k : Nat} (h : k ≠ 1) : M_drift s k = s k := u1_ne h
theorem Bk_drift {B : Bu} {nw sc ni n : Nat} (h : Bk B nw sc ni) : Bk (P_drift n B) nw sc ni := by
  obtain ⟨h1, h2, h3, h4, h5, h6, h7, h8, h9⟩ := h
  refine ⟨h1, h2, h3, h4, h5, h6, h7, h8, fun i hi => ?_⟩
  show (if i < n then M_drift (B.2.2 i) else B.2.2 i) 12 = 0 ∨ (if i < n then M_drift (B.2.2 i) else B.2.2 i) 12 = 1
  split
  · rw [M_drift_at _ (by decide)]; exact h9 i hi
  · exact h9 i hi
theorem Bk_sC {B : Bu} {nw sc ni k : Nat} {v : Int32} (h : Bk B nw sc ni) (hk : k ≠ 5 ∧ k ≠ 6 ∧ k ≠ 7 ∧ k ≠ 8) : Bk (sC B (u1 B.1 k v)) nw sc ni := by
  obtain ⟨h1, h2, h3, h4, h5, h6, h7, h8, h9⟩ := h
  obtain ⟨k1, k2, k3, k4⟩ := hk
  exact ⟨(u1_ne (Ne.symm k3)).trans h1, h2, (u1_ne (Ne.symm k4)).trans h3, h4, h5, (u1_ne (Ne.symm k1)).trans h6, h7, by obtain ⟨sd, e1, e2⟩ := h8; exact ⟨sd, e1, (u1_ne (Ne.symm k2)).trans e2⟩, h9⟩
theorem Bk_begin {B : Bu} {nw sc ni n : Nat} (h : Bk B nw sc ni) : Bk (P_begin n B) nw sc ni := Bk_drift (Bk_sC h (by decide))
theorem M_sell_at (c s : Nat → Int32) {k : Nat} (h : k ≠ 0 ∧ k ≠ 14 ∧ k ≠ 8) : M_sell c s k = s k := by
  obtain ⟨h1, h2, h3⟩ := h
  unfold M_sell
  try simp only []
  split
  · rw [u1_ne h3, u1_ne h2, u1_ne h1]
  · rw [u1_ne h2, u1_ne h1]
theorem M_trade_at (c s : Nat → Int32) {k : Nat} (h : k ≠ 0 ∧ k ≠ 14 ∧ k ≠ 8) : M_trade c s k = s k := by
  unfold M_trade
  split
  · rfl
  · exact M_sell_at c s h
theorem Bk_trade {B : Bu} {nw sc ni n : Nat} (h : Bk B nw sc ni) : Bk (P_trade n B) nw sc ni := by
  obtain ⟨h1, h2, h3, h4, h5, h6, h7, h8, h9⟩ := h
  refine ⟨h1, h2, h3, h4, h5, h6, h7, h8, fun i hi => ?_⟩
  show (if i < n then M_trade B.1 (B.2.2 i) else B.2.2 i) 12 = 0 ∨ (if i < n then M_trade B.1 (B.2.2 i) else B.2.2 i) 12 = 1
  split
  · rw [M_trade_at _ _ (by decide)]; exact h9 i hi
  · exact h9 i hi
theorem Bk_seed {B : Bu} {nw sc ni sd : Nat} (h : Bk B nw sc ni) (hs : sd ≤ 65536) : Bk (sC B (u1 B.1 6 (nI sd))) nw sc ni := by
  obtain ⟨h1, h2, h3, h4, h5, h6, h7, h8, h9⟩ := h
  exact ⟨show u1 B.1 6 (nI sd) 7 = nI nw from (u1_ne (by decide)).trans h1, h2, show u1 B.1 6 (nI sd) 8 = nI sc from (u1_ne (by decide)).trans h3, h4, h5, show u1 B.1 6 (nI sd) 5 = nI ni from (u1_ne (by decide)).trans h6, h7, ⟨sd, hs, show u1 B.1 6 (nI sd) 6 = nI sd from u1_same _ _ _⟩, h9⟩
theorem Bk_choose {B : Bu} {nw sc ni : Nat} (h : Bk B nw sc ni) : Bk (P_choose B sc).2 nw sc ni := by
  unfold P_choose
  split
  · exact h
  · exact Bk_seed h (M_seed_lt _)
theorem Bk_sS {B : Bu} {nw sc ni a : Nat} {s : Nat → Int32} (h : Bk B nw sc ni) (hs : s 12 = 0 ∨ s 12 = 1) : Bk (sS B a s) nw sc ni := by
  obtain ⟨h1, h2, h3, h4, h5, h6, h7, h8, h9⟩ := h
  refine ⟨h1, h2, h3, h4, h5, h6, h7, h8, fun i hi => ?_⟩
  show u1 B.2.2 a s i 12 = 0 ∨ u1 B.2.2 a s i 12 = 1
  rw [u1_at]
  split
  · exact hs
  · exact h9 i hi
theorem M_visC_at (c : Nat → Int32) (t : Int32) (z : Bool) {k : Nat} (h : k ≠ 10 ∧ k ≠ 11) : M_visC c t z k = c k := by
  unfold M_visC
  try simp only []
  split
  · rw [u1_ne h.1, u1_ne h.2]
  · rw [u1_ne h.2]
theorem M_straight_at (s : Nat → Int32) {k : Nat} (h : k ≠ 1 ∧ k ≠ 2) : M_straight s k = s k := by
  unfold M_straight
  rw [u1_ne h.2, u1_ne h.1]
theorem M_fin12 (q : Nat → Int32) (h : q 12 = 0 ∨ q 12 = 1) : (if 3 ≤ q 9 then u1 q 12 0 else q) 12 = 0 ∨ (if 3 ≤ q 9 then u1 q 12 0 else q) 12 = 1 := by
  split
  · exact Or.inl (u1_same _ _ _)
  · exact h
theorem M_visS_12 (c s : Nat → Int32) (t : Int32) (z : Bool) (h : s 12 = 0 ∨ s 12 = 1) : M_visS c s t z 12 = 0 ∨ M_visS c s t z 12 = 1 := by
  simp only [M_visS]
  refine M_fin12 _ ?_
  rw [u1_ne (show (12 : Nat) ≠ 11 by decide)]
  have e2 : ∀ y : Nat → Int32, (if 0 < t then M_straight y else y) 12 = y 12 := fun y => by
    split
    · exact M_straight_at (k := 12) y (by decide)
    · rfl
  rw [e2]
  have e3 : (if 0 < t ∨ z = false then u1 (u1 (u1 (u1 (u1 s 10 (c 9)) 8 0) 0 (s 0 - M_fine c t z)) 13 (s 13 + M_fine c t z)) 9 (s 9 + 1) else u1 (u1 s 10 (c 9)) 8 0) 12 = s 12 := by
    split <;> simp [u1_at]
  rw [e3]
  exact h
theorem Bk_ins {B : Bu} {nw sc ni i : Nat} (h : Bk B nw sc ni) (hi : i < sc) : Bk (P_ins B i nw) nw sc ni := by
  have h1 := Bk_sS (a := i) h (M_visS_12 B.1 (B.2.2 i) (M_tot B.1 B.2.1 (B.2.2 i) nw) (M_stamped (B.2.2 i) (B.1 9)) (h.2.2.2.2.2.2.2.2 i hi))
  obtain ⟨h1, h2, h3, h4, h5, h6, h7, h8, h9⟩ := h1
  exact ⟨(M_visC_at _ _ _ (by decide)).trans h1, h2, (M_visC_at _ _ _ (by decide)).trans h3, h4, h5, (M_visC_at _ _ _ (by decide)).trans h6, h7, by obtain ⟨sd, e1, e2⟩ := h8; exact ⟨sd, e1, (M_visC_at _ _ _ (by decide)).trans e2⟩, h9⟩
def P_sent1 (nw sc : Nat) (q : Nat × Bu) : Nat × Bu := match P_choose q.2 sc with
  | (none, B') => (q.1, B')
  | (some i, B') => (q.1 + 1, P_ins B' i nw)
theorem P_sent_S (nw sc n : Nat) (q : Nat × Bu) : P_sent nw sc (n + 1) q = P_sent nw sc n (P_sent1 nw sc q) := rfl
theorem P_sent1_n {nw sc : Nat} {q : Nat × Bu} (e : (P_choose q.2 sc).1 = none) : P_sent1 nw sc q = (q.1, (P_choose q.2 sc).2) := by
  unfold P_sent1
  generalize P_choose q.2 sc = z at e ⊢
  obtain ⟨o, B'⟩ := z
  subst e
  rfl
theorem P_sent1_s {nw sc i : Nat} {q : Nat × Bu} (e : (P_choose q.2 sc).1 = some i) : P_sent1 nw sc q = (q.1 + 1, P_ins (P_choose q.2 sc).2 i nw) := by
  unfold P_sent1
  generalize P_choose q.2 sc = z at e ⊢
  obtain ⟨o, B'⟩ := z
  subst e
  rfl
theorem Bk_sent1 {nw sc ni : Nat} {q : Nat × Bu} (h0 : 0 < sc) (h : Bk q.2 nw sc ni) : Bk (P_sent1 nw sc q).2 nw sc ni := by
  cases e : (P_choose q.2 sc).1 with
  | none => rw [P_sent1_n e]; exact Bk_choose h
  | some i => rw [P_sent1_s e]; exact Bk_ins (Bk_choose h) (P_choose_lt h0 e)
theorem Bk_sent {nw sc ni : Nat} (h0 : 0 < sc) : ∀ (n : Nat) (q : Nat × Bu), Bk q.2 nw sc ni → Bk (P_sent nw sc n q).2 nw sc ni
  | 0, _, h => h
  | n + 1, q, h => Bk_sent h0 n (P_sent1 nw sc q) (Bk_sent1 h0 h)
theorem Bk_day {nw sc ni : Nat} {q : Nat × Bu} (h : Bk q.2 nw sc ni) : Bk (P_day nw sc ni q).2 nw sc ni := Bk_sent h.2.2.2.2.1 ni _ (Bk_trade (Bk_begin h))
theorem oI_some {i : Nat} : oI (some i) = nI i := rfl
set_option maxRecDepth 20000 in
theorem cb_chooseShop {E : En} {h : Hp} {b nw sc ni : Nat} {B : Bu} (hB : BuOk h b) (hk : Bk B nw sc ni) : CR E m_BU_chooseShop [.ref b] (wB h b B) (some (.int (oI (P_choose B sc).1))) (wB h b (P_choose B sc).2) := by
  refine ct_of rfl (by decide +kernel) (Nat.le_of_ble_eq_true rfl) ?_
  show G E m_BU_chooseShop 0 [(0, .ref b)] [] (wB h b B) 0 0 _ noX
  obtain ⟨hw, hn, hs, hm, h0, hi, hni, ⟨sd, hsd, hsx⟩, hop⟩ := id hk
  refine g_aload_n (pc := 0) d_BU_chooseShop_0 rfl 0 rfl ?_
  refine g_cV1 (pc := 1) (ci := 4) (As := []) d_BU_chooseShop_1 rfl mv_BU_mostAccused st_BU_chooseShop_141 rfl rfl (by decide) rfl rfl (Nat.le_of_ble_eq_true rfl) hB.1 (cb_mostAccused hB hs hm) ?_
  refine g_istore_n (pc := 4) (lv' := [(1, .int (oI (P_most B sc).1)), (0, .ref b)]) d_BU_chooseShop_4 rfl (by decide) rfl ?_
  refine g_iload_n (pc := 5) d_BU_chooseShop_5 rfl 0 rfl ?_
  refine g_iconst (pc := 6) (v := (-1)) d_BU_chooseShop_6 (by decide) ?_
  refine g_icmp_ne (pc := 7) (tgt := 27) d_BU_chooseShop_7 (by decide) (fun c_7 => ?_) (fun c_7 => ?_)
  · skip
    have q1 : (P_most B sc).1 ≠ none := fun z => c_7 ((oI_m1 (fun i z => Nat.lt_of_lt_of_le (P_most_lt B sc i z) hm)).mpr z)
    have q9 : P_choose B sc = ((P_most B sc).1, B) := by unfold P_choose; rw [if_pos (Or.inl q1)]
    refine g_iload_n (pc := 27) d_BU_chooseShop_27 rfl 0 rfl ?_
    refine g_iret (pc := 28) d_BU_chooseShop_28 rfl ?_
    rw [q9]
    exact ⟨rfl, rfl⟩
  · skip
    have q1 : (P_most B sc).1 = none := (oI_m1 (fun i z => Nat.lt_of_lt_of_le (P_most_lt B sc i z) hm)).mp c_7
    refine g_aload_n (pc := 10) d_BU_chooseShop_10 rfl 1 rfl ?_
    refine g_iconst (pc := 11) (v := 0) d_BU_chooseShop_11 (by decide) ?_
    refine g_cV1 (pc := 12) (ci := 4) (As := [.int _]) d_BU_chooseShop_12 rfl mv_BU_nextToVisitFrom st_BU_chooseShop_144 rfl rfl (by decide) rfl rfl (Nat.le_of_ble_eq_true rfl) hB.1 (cb_nextToVisitFrom (j := 0) hB hs hm h0) ?_
    refine g_iconst (pc := 15) (v := (-1)) d_BU_chooseShop_15 (by decide) ?_
    refine g_icmp_eq (pc := 16) (tgt := 27) d_BU_chooseShop_16 (by decide) (fun c_16 => ?_) (fun c_16 => ?_)
    · skip
      have q2 : P_next B sc sc 0 = none := (oI_m1 (fun i z => Nat.lt_of_lt_of_le (P_next_lt B sc sc 0 i h0 z) hm)).mp c_16
      have q9 : P_choose B sc = ((P_most B sc).1, B) := by unfold P_choose; rw [if_pos (Or.inr q2)]
      refine g_iload_n (pc := 27) d_BU_chooseShop_27 rfl 0 rfl ?_
      refine g_iret (pc := 28) d_BU_chooseShop_28 rfl ?_
      rw [q9]
      exact ⟨rfl, rfl⟩
    · skip
      have q2 : P_next B sc sc 0 ≠ none := fun z => c_16 ((oI_m1 (fun i z => Nat.lt_of_lt_of_le (P_next_lt B sc sc 0 i h0 z) hm)).mpr z)
      refine g_aload_n (pc := 19) d_BU_chooseShop_19 rfl 1 rfl ?_
      refine g_bgI (pc := 20) (f := 8) rfl d_BU_chooseShop_20 fl_BU_56 hB ?_
      refine g_iconst (pc := 23) (v := 1) d_BU_chooseShop_23 (by decide) ?_
      refine g_icmp_ge (pc := 24) (tgt := 29) d_BU_chooseShop_24 (by decide) (fun c_24 => ?_) (fun c_24 => ?_)
      · skip
        have q9 : P_choose B sc = (P_next (sC B (u1 B.1 6 (nI (M_seed (B.1 6))))) sc sc (M_seed (B.1 6) % sc), sC B (u1 B.1 6 (nI (M_seed (B.1 6))))) := by unfold P_choose; rw [if_neg (fun z => z.elim (fun z => z q1) q2)]
        refine g_aload_n (pc := 29) d_BU_chooseShop_29 rfl 1 rfl ?_
        refine g_bipush (pc := 30) (v := 75) d_BU_chooseShop_30 (by decide) ?_
        refine g_aload_n (pc := 32) d_BU_chooseShop_32 rfl 1 rfl ?_
        refine g_bgI (pc := 33) (f := 6) rfl d_BU_chooseShop_33 fl_BU_41 hB ?_
        refine g_imul (pc := 36) d_BU_chooseShop_36 ?_
        refine g_bipush (pc := 37) (v := 74) d_BU_chooseShop_37 (by decide) ?_
        refine g_iadd (pc := 39) d_BU_chooseShop_39 ?_
        refine g_ldci (pc := 40) d_BU_chooseShop_40 co_BU_147 ?_
        refine g_irem (pc := 42) d_BU_chooseShop_42 (by decide) ?_
        rw [hsx, seed_eq hsd, ← hsx]
        refine g_bpI (pc := 43) (f := 6) rfl d_BU_chooseShop_43 fl_BU_41 (fun q hq => by cases hq; exact rfl) rfl rfl hB ?_
        refine g_aload_n (pc := 46) d_BU_chooseShop_46 rfl 1 rfl ?_
        
        refine g_aload_n (pc := 47) d_BU_chooseShop_47 rfl 1 rfl ?_
        refine g_bgI (pc := 48) (f := 6) rfl d_BU_chooseShop_48 fl_BU_41 hB ?_
        refine g_aload_n (pc := 51) d_BU_chooseShop_51 rfl 1 rfl ?_
        refine g_bgI (pc := 52) (f := 8) rfl d_BU_chooseShop_52 fl_BU_56 hB ?_
        rw [show (sC B (u1 B.1 6 (nI (M_seed (B.1 6))))).1 6 = nI (M_seed (B.1 6)) from rfl, show (sC B (u1 B.1 6 (nI (M_seed (B.1 6))))).1 8 = nI sc from hs]
        refine g_irem (pc := 55) d_BU_chooseShop_55 (by exact nI_ne0 h0 (by omega)) ?_
        rw [nI_rem (Nat.lt_of_le_of_lt (M_seed_lt _) (by decide)) (by omega) h0]
        refine g_cV1 (pc := 56) (ci := 4) (As := [.int _]) d_BU_chooseShop_56 rfl mv_BU_nextToVisitFrom st_BU_chooseShop_144 rfl rfl (by decide) rfl rfl (Nat.le_of_ble_eq_true rfl) hB.1 (cb_nextToVisitFrom (B := sC B (u1 B.1 6 (nI (M_seed (B.1 6))))) (j := M_seed (B.1 6) % sc) hB hs hm (Nat.mod_lt _ h0)) ?_
        refine g_iret (pc := 59) d_BU_chooseShop_59 rfl ?_
        rw [q9]
        exact ⟨rfl, rfl⟩
      · exact absurd (show nI 1 ≤ nI sc from nI_le h0 (by omega)) (by rw [hs] at c_24; exact c_24)
theorem lp_passIn {E : En} {h : Hp} {b nw sc ni i days : Nat} {PP : Option Value → Hp → Prop} (hB : BuOk h b) : ∀ (d s : Nat) (q : Nat × Bu), s ≤ ni → Bk q.2 nw sc ni → ni - s < d →
    G E m_BU_passMany 62 [(3, .int (nI i)), (2, .int (nI (P_sent nw sc (ni - s) q).1)), (0, .ref b), (1, .int (nI days))] [] (wB h b (P_sent nw sc (ni - s) q).2) 0 0 PP noX →
    G E m_BU_passMany 20 [(4, .int (nI s)), (3, .int (nI i)), (2, .int (nI q.1)), (0, .ref b), (1, .int (nI days))] [] (wB h b q.2) 0 0 PP noX := by
  intro d
  induction d with
  | zero => intros; omega
  | succ d ih =>
    intro s q hsn hk hd kk
    obtain ⟨hw, hn, hs, hm, h0, hi, hni, -, -⟩ := id hk
    have hk1 := Bk_choose hk
    have hk2 := Bk_sent1 (q := q) h0 hk
    obtain ⟨q1, B⟩ := q
    refine g_iload (pc := 20) d_BU_passMany_20 0 rfl ?_
    refine g_aload_n (pc := 22) d_BU_passMany_22 rfl 3 rfl ?_
    refine g_bgI (pc := 23) (f := 5) rfl d_BU_passMany_23 fl_BU_38 hB ?_
    refine g_icmp_ge (pc := 26) (tgt := 62) d_BU_passMany_26 (by decide) (fun c_26 => ?_) (fun c_26 => ?_)
    · skip
      have e9 : s = ni := by rw [hi] at c_26; have := (nI_leI (by omega) (by omega)).mp c_26; omega
      rw [show ni - s = 0 by omega] at kk
      refine g_perm [1, 2, 3, 4] rfl ?_
      exact kk
    · skip
      have e9 : s < ni := by rw [hi] at c_26; exact Nat.lt_of_not_le (fun z => c_26 ((nI_leI (by omega) (by omega)).mpr z))
      refine g_aload_n (pc := 29) d_BU_passMany_29 rfl 3 rfl ?_
      refine g_cV1 (pc := 30) (ci := 4) (As := []) d_BU_passMany_30 rfl mv_BU_chooseShop st_BU_passMany_110 rfl rfl (by decide) rfl rfl (Nat.le_of_ble_eq_true rfl) hB.1 (cb_chooseShop hB hk) ?_
      refine g_nameI (fun x_1 hx_1 => ?_)
      refine g_istore (pc := 33) (lv' := [(5, .int x_1), (4, .int (nI s)), (3, .int (nI i)), (2, .int (nI q1)), (0, .ref b), (1, .int (nI days))]) d_BU_passMany_33 (by decide) rfl ?_
      refine g_iload (pc := 35) d_BU_passMany_35 0 rfl ?_
      refine g_iconst (pc := 37) (v := (-1)) d_BU_passMany_37 (by decide) ?_
      refine g_icmp_eq (pc := 38) (tgt := 56) d_BU_passMany_38 (by decide) (fun c_38 => ?_) (fun c_38 => ?_)
      · skip
        rw [hx_1] at c_38
        have ec : (P_choose B sc).1 = none := (oI_m1 (fun i z => Nat.lt_of_lt_of_le (P_choose_lt h0 z) hm)).mp c_38
        obtain ⟨x_2, hx_2⟩ : ∃ y : Int32, y = (nI s) + 1 := ⟨_, rfl⟩
        refine g_iinc (pc := 56) (w := 1) (v := x_2) (lv' := [(4, .int x_2), (5, .int x_1), (3, .int (nI i)), (2, .int (nI q1)), (0, .ref b), (1, .int (nI days))]) d_BU_passMany_56 rfl (by rw [hx_2]; rfl) (by decide) rfl ?_
        refine g_goto (pc := 59) (tgt := 20) d_BU_passMany_59 (by decide) ?_
        have e8 : x_2 = nI (s + 1) := by rw [hx_2]; exact nI_1 _
        clear hx_2
        subst e8
        rw [show ni - s = (ni - (s + 1)) + 1 by omega, P_sent_S, P_sent1_n (show (P_choose (q1, B).2 sc).1 = none from ec)] at kk
        rw [P_sent1_n (show (P_choose (q1, B).2 sc).1 = none from ec)] at hk2
        refine g_perm [0, 2, 3, 4, 5] rfl ?_
        exact ih (s + 1) (q1, (P_choose B sc).2) (by omega) hk2 (by omega) kk
      · skip
        rw [hx_1] at c_38
        obtain ⟨c, ec⟩ : ∃ c, (P_choose B sc).1 = some c := by
          cases e : (P_choose B sc).1 with
          | none => exact absurd (by rw [e]; rfl) c_38
          | some c => exact ⟨c, rfl⟩
        rw [ec, oI_some] at hx_1
        have hc : c < 8 := Nat.lt_of_lt_of_le (P_choose_lt h0 ec) hm
        have hw2 := hk1.1
        refine g_aload_n (pc := 41) d_BU_passMany_41 rfl 4 rfl ?_
        refine g_aload_n (pc := 42) d_BU_passMany_42 rfl 4 rfl ?_
        refine g_bgS (pc := 43) d_BU_passMany_43 fl_BU_17 hB ?_
        refine g_iload (pc := 46) d_BU_passMany_46 0 rfl ?_
        refine g_top hx_1 ?_
        refine g_bsl (pc := 48) d_BU_passMany_48 hB (by first | assumption | omega) ?_
        refine g_cV1 (pc := 49) (ci := 4) (As := [.ref _]) d_BU_passMany_49 rfl mv_BU_inspect st_BU_passMany_114 rfl rfl (by decide) rfl rfl (Nat.le_of_ble_eq_true rfl) hB.1 (cb_inspect hB (by first | assumption | omega) hw2 hn) ?_
        refine g_pop (pc := 52) d_BU_passMany_52 rfl ?_
        obtain ⟨x_3, hx_3⟩ : ∃ y : Int32, y = (nI q1) + 1 := ⟨_, rfl⟩
        refine g_iinc (pc := 53) (w := 3) (v := x_3) (lv' := [(2, .int x_3), (5, .int x_1), (4, .int (nI s)), (3, .int (nI i)), (0, .ref b), (1, .int (nI days))]) d_BU_passMany_53 rfl (by rw [hx_3]; rfl) (by decide) rfl ?_
        obtain ⟨x_4, hx_4⟩ : ∃ y : Int32, y = (nI s) + 1 := ⟨_, rfl⟩
        refine g_iinc (pc := 56) (w := 2) (v := x_4) (lv' := [(4, .int x_4), (2, .int x_3), (5, .int x_1), (3, .int (nI i)), (0, .ref b), (1, .int (nI days))]) d_BU_passMany_56 rfl (by rw [hx_4]; rfl) (by decide) rfl ?_
        refine g_goto (pc := 59) (tgt := 20) d_BU_passMany_59 (by decide) ?_
        have e8 : x_4 = nI (s + 1) := by rw [hx_4]; exact nI_1 _
        clear hx_4
        subst e8
        have e7 : x_3 = nI (q1 + 1) := by rw [hx_3]; exact nI_1 _
        clear hx_3
        subst e7
        rw [show ni - s = (ni - (s + 1)) + 1 by omega, P_sent_S, P_sent1_s (show (P_choose (q1, B).2 sc).1 = some c from ec)] at kk
        rw [P_sent1_s (show (P_choose (q1, B).2 sc).1 = some c from ec)] at hk2
        refine g_perm [0, 3, 1, 4, 5] rfl ?_
        exact ih (s + 1) (q1 + 1, P_ins (P_choose B sc).2 c nw) (by omega) hk2 (by omega) kk
theorem lp_passOut {E : En} {h : Hp} {b nw sc ni days : Nat} (hB : BuOk h b) (hdy : days < 2 ^ 31) : ∀ (d i : Nat) (q : Nat × Bu), i ≤ days → Bk q.2 nw sc ni → days - i < d →
    G E m_BU_passMany 4 [(3, .int (nI i)), (2, .int (nI q.1)), (0, .ref b), (1, .int (nI days))] [] (wB h b q.2) 0 0 (fun v h' => v = some (.int (nI (P_pass nw sc ni (days - i) q).1)) ∧ h' = wB h b (P_pass nw sc ni (days - i) q).2) noX := by
  intro d
  induction d with
  | zero => intros; omega
  | succ d ih =>
    intro i q hid hk hd
    obtain ⟨hw, hn, hs, hm, h0, hi, hni, -, -⟩ := id hk
    have hk2 := Bk_day (q := q) hk
    have hk3 := Bk_trade (n := sc) (Bk_begin (n := sc) hk)
    obtain ⟨q1, B⟩ := q
    refine g_iload_n (pc := 4) d_BU_passMany_4 rfl 0 rfl ?_
    refine g_iload_n (pc := 5) d_BU_passMany_5 rfl 3 rfl ?_
    refine g_icmp_ge (pc := 6) (tgt := 68) d_BU_passMany_6 (by decide) (fun c_6 => ?_) (fun c_6 => ?_)
    · skip
      have e9 : i = days := by have := (nI_leI (by omega) (by omega)).mp c_6; omega
      refine g_iload_n (pc := 68) d_BU_passMany_68 rfl 1 rfl ?_
      refine g_iret (pc := 69) d_BU_passMany_69 rfl ?_
      rw [e9, Nat.sub_self]
      exact ⟨rfl, rfl⟩
    · skip
      have e9 : i < days := Nat.lt_of_not_le (fun z => c_6 ((nI_leI (by omega) (by omega)).mpr z))
      refine g_aload_n (pc := 9) d_BU_passMany_9 rfl 2 rfl ?_
      refine g_cV0 (pc := 10) (ci := 4) (As := []) d_BU_passMany_10 rfl mv_BU_beginDay st_BU_passMany_104 rfl rfl (by decide) rfl rfl (Nat.le_of_ble_eq_true rfl) hB.1 (cb_beginDay hB hs hm) ?_
      refine g_aload_n (pc := 13) d_BU_passMany_13 rfl 2 rfl ?_
      refine g_cV0 (pc := 14) (ci := 4) (As := []) d_BU_passMany_14 rfl mv_BU_trade st_BU_passMany_107 rfl rfl (by decide) rfl rfl (Nat.le_of_ble_eq_true rfl) hB.1 (cb_trade hB hs hm) ?_
      refine g_iconst (pc := 17) (v := 0) d_BU_passMany_17 (by decide) ?_
      refine g_nameI (fun x_1 hx_1 => ?_)
      refine g_istore (pc := 18) (lv' := [(4, .int x_1), (3, .int (nI i)), (2, .int (nI q1)), (0, .ref b), (1, .int (nI days))]) d_BU_passMany_18 (by decide) rfl ?_
      subst hx_1
      refine lp_passIn (nw := nw) (sc := sc) hB (ni + 1) 0 (q1, P_trade sc (P_begin sc B)) (Nat.zero_le _) hk3 (by omega) ?_
      rw [Nat.sub_zero]
      show G E m_BU_passMany 62 [(3, .int (nI i)), (2, .int (nI (P_day nw sc ni (q1, B)).1)), (0, .ref b), (1, .int (nI days))] [] (wB h b (P_day nw sc ni (q1, B)).2) 0 0 _ noX
      obtain ⟨x_1, hx_1⟩ : ∃ y : Int32, y = (nI i) + 1 := ⟨_, rfl⟩
      refine g_iinc (pc := 62) (w := 0) (v := x_1) (lv' := [(3, .int x_1), (2, .int (nI (P_day nw sc ni (q1, B)).1)), (0, .ref b), (1, .int (nI days))]) d_BU_passMany_62 rfl (by rw [hx_1]; rfl) (by decide) rfl ?_
      refine g_goto (pc := 65) (tgt := 4) d_BU_passMany_65 (by decide) ?_
      have e8 : x_1 = nI (i + 1) := by rw [hx_1]; exact nI_1 _
      clear hx_1
      subst e8
      refine g_perm [0, 1, 2, 3] rfl ?_
      rw [show days - i = (days - (i + 1)) + 1 by omega]
      exact ih (i + 1) (P_day nw sc ni (q1, B)) (by omega) hk2 (by omega)
set_option maxRecDepth 20000 in
theorem cb_passMany {E : En} {h : Hp} {b nw sc ni days : Nat} {B : Bu} (hB : BuOk h b) (hk : Bk B nw sc ni) (hdy : days < 2 ^ 31) : CR E m_BU_passMany [.ref b, .int (nI days)] (wB h b B) (some (.int (nI (P_pass nw sc ni days (0, B)).1))) (wB h b (P_pass nw sc ni days (0, B)).2) := by
  refine ct_of rfl (by decide +kernel) (Nat.le_of_ble_eq_true rfl) ?_
  show G E m_BU_passMany 0 [(0, .ref b), (1, .int (nI days))] [] (wB h b B) 0 0 _ noX
  refine g_iconst (pc := 0) (v := 0) d_BU_passMany_0 (by decide) ?_
  refine g_nameI (fun x_1 hx_1 => ?_)
  refine g_istore_n (pc := 1) (lv' := [(2, .int x_1), (0, .ref b), (1, .int (nI days))]) d_BU_passMany_1 rfl (by decide) rfl ?_
  refine g_iconst (pc := 2) (v := 0) d_BU_passMany_2 (by decide) ?_
  refine g_nameI (fun x_2 hx_2 => ?_)
  refine g_istore_n (pc := 3) (lv' := [(3, .int x_2), (2, .int x_1), (0, .ref b), (1, .int (nI days))]) d_BU_passMany_3 rfl (by decide) rfl ?_
  subst hx_1
  subst hx_2
  exact lp_passOut hB hdy (days + 1) 0 (0, B) (Nat.zero_le _) hk (by omega)
