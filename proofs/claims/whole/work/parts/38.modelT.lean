/-! THE MODEL'S PARSER: a script -/
theorem bF : ¬ false = true := by decide
theorem VQ_in {lo hi : Int32} {q : Ps} {w : Int32} (h : VQ q w) : VQ (Y_in lo hi q).2 w := by unfold VQ at h ⊢; rw [Y_in_1]; exact h
theorem TW_in {T : Nat → Int32} {n : Nat} {lo hi : Int32} {q : Ps} (h : TW T n q.1) : TW T n (Y_in lo hi q).2.1 := by rw [Y_in_1]; exact h
def Y_rs (T : Nat → Int32) (n : Nat) (c : Int32) (v : Nat) (q : Ps) (N : Nat → Int32) : Bool × Ps × (Nat → Int32) :=
  if v = 0 then ((Y_in 1 100 q).1, (Y_in 1 100 q).2, if (Y_in 1 100 q).1 = true then u1 N 0 q.1.2.2.2 else N)
  else if v = 3 then (if (Y_in 0 (c - 1) q).1 = true then ((Y_in 0 100 (qS T n q)).1, (Y_in 0 100 (qS T n q)).2, if (Y_in 0 100 (qS T n q)).1 = true then u1 (u1 N 0 q.1.2.2.2) 1 (qS T n q).1.2.2.2 else u1 N 0 q.1.2.2.2) else (false, (Y_in 0 (c - 1) q).2, N))
  else ((Y_in 0 (c - 1) q).1, (Y_in 0 (c - 1) q).2, if (Y_in 0 (c - 1) q).1 = true then u1 N 0 q.1.2.2.2 else N)
theorem Y_verb_z {T : Nat → Int32} {t : Tk} : (∀ v, v < 6 → Z_word T t 9 0 = v + 3 → Y_verb T t = nI v) ∧ ((Z_word T t 9 0 < 3 ∨ 8 < Z_word T t 9 0) → Y_verb T t = -1) := by
  have h : ∀ w0, w0 < 9 → (Y_isw T t (w0 + 1) = true ↔ Z_word T t 9 0 = w0) := fun w0 h0 => (Z_word_iff h0).symm
  have e3 := h 3 (by omega)
  have e4 := h 4 (by omega)
  have e5 := h 5 (by omega)
  have e6 := h 6 (by omega)
  have e7 := h 7 (by omega)
  have e8 := h 8 (by omega)
  unfold Y_verb
  simp only [e3, e4, e5, e6, e7, e8]
  refine ⟨fun v hv e => ?_, fun e => ?_⟩
  · rcases (show v = 0 ∨ v = 1 ∨ v = 2 ∨ v = 3 ∨ v = 4 ∨ v = 5 by omega) with rfl | rfl | rfl | rfl | rfl | rfl <;> simp [e, nI] <;> rfl
  · rw [if_neg (by omega), if_neg (by omega), if_neg (by omega), if_neg (by omega), if_neg (by omega), if_neg (by omega)]
theorem nI_v : ∀ v, v < 6 → ¬ nI v = -1 ∧ (nI v = 0 ↔ v = 0) ∧ (nI v = 3 ↔ v = 3) := by decide
theorem Y_cmd_n {T : Nat → Int32} {n : Nat} {c : Int32} {q : Ps} {S : Sq} (h : Y_verb T q.1 = -1) : Y_cmd T n c q S = (false, Y_fail 1 q, S) := by unfold Y_cmd; rw [if_pos h]
theorem Y_cmd_rs {T : Nat → Int32} {n v : Nat} {c : Int32} {q : Ps} {S : Sq} {N : Nat → Int32} (hv : Y_verb T q.1 = nI v) (h6 : v < 6) : Y_cmd T n c q S = if (Y_rs T n c v (Y_next T n q) N).1 = true then Y_end T n (nI v) (if v = 0 then 0 else (Y_next T n q).1.2.2.2) (qS T n (Y_rs T n c v (Y_next T n q) N).2.1) S else (false, (Y_rs T n c v (Y_next T n q) N).2.1, S) := by
  obtain ⟨n1, n2, n3⟩ := nI_v v h6
  unfold Y_cmd
  rw [hv, if_neg n1]
  unfold Y_rs
  generalize Y_next T n q = p
  by_cases h0 : v = 0
  · rw [if_pos (n2.mpr h0), if_pos h0, if_pos h0]
    cases h1 : (Y_in 1 100 p).1 with
    | true => rw [Y_num_t h1, if_pos rfl, if_pos rfl, (Yin_t h1).1]
    | false => rw [Y_num_f h1, if_neg bF, if_neg bF]
  · rw [if_neg (mt n2.mp h0), if_neg h0, if_neg h0]
    cases h1 : (Y_in 0 (c - 1) p).1 with
    | false =>
      rw [Y_num_f h1, if_neg bF]
      by_cases h3 : v = 3
      · rw [if_pos h3, if_neg bF]; rfl
      · rw [if_neg h3, if_neg bF]
    | true =>
      rw [Y_num_t h1, if_pos rfl]
      by_cases h3 : v = 3
      · rw [if_pos (n3.mpr h3), if_pos h3, if_pos rfl]
        cases h4 : (Y_in 0 100 (qS T n p)).1 with
        | true => rw [Y_num_t h4, if_pos rfl, if_pos rfl, (Yin_t h4).1]; rfl
        | false => rw [Y_num_f h4, if_neg bF, if_neg bF]
      · rw [if_neg (mt n3.mp h3), if_neg h3, if_pos rfl, (Yin_t h1).1]; rfl
/-- the model's commands beside the class's script -/
def CmR (sc : Nat) (S : Sq) (K : Nat → Int32) : Prop := ∀ i, i < S.1 → ∃ v a nm : Nat, v < 6 ∧ S.2.1 i = nI v ∧ S.2.2.1 i = nI a ∧ S.2.2.2 i = nI nm ∧ nm ≤ 100 ∧ (v = 0 → a = 0) ∧ (v ≠ 0 → a < sc) ∧ K (3 * i) = nI (v + 3) ∧ K (3 * i + 1) = nI (if v = 0 then nm else a) ∧ (v = 3 → K (3 * i + 2) = nI nm)
theorem CmR_add {sc v a nm : Nat} {S : Sq} {K : Nat → Int32} {x : Int32} (h : CmR sc S K) (h20 : S.1 < 20) (h6 : v < 6) (hn : nm ≤ 100) (ha : v = 0 → a = 0) (hb : v ≠ 0 → a < sc) (h3 : v = 3 → x = nI nm) : CmR sc (Y_add S (nI v) (nI a) (nI nm)) (u1 (u1 (u1 K (3 * S.1) (nI (v + 3))) (3 * S.1 + 1) (nI (if v = 0 then nm else a))) (3 * S.1 + 2) x) := by
  intro i hi
  unfold Y_add at hi ⊢
  rw [if_pos h20] at hi ⊢
  by_cases e : i = S.1
  · subst e
    exact ⟨v, a, nm, h6, u1_same _ _ _, u1_same _ _ _, u1_same _ _ _, hn, ha, hb, by rw [u1_ne (by omega), u1_ne (by omega), u1_same], by rw [u1_ne (by omega), u1_same], fun z => by rw [u1_same]; exact h3 z⟩
  · have hi2 : i < S.1 := by have : i < S.1 + 1 := hi; omega
    obtain ⟨v', a', n', z1, z2, z3, z4, z5, z6, z7, z8, z9, z10⟩ := h i hi2
    exact ⟨v', a', n', z1, by show u1 S.2.1 S.1 (nI v) i = _; rw [u1_ne e]; exact z2, by show u1 S.2.2.1 S.1 (nI a) i = _; rw [u1_ne e]; exact z3, by show u1 S.2.2.2 S.1 (nI nm) i = _; rw [u1_ne e]; exact z4, z5, z6, z7, by rw [u1_ne (by omega), u1_ne (by omega), u1_ne (by omega)]; exact z8, by rw [u1_ne (by omega), u1_ne (by omega), u1_ne (by omega)]; exact z9, fun z => by rw [u1_ne (by omega), u1_ne (by omega), u1_ne (by omega)]; exact z10 z⟩
theorem sc_hi : ∀ sc, sc ≤ 8 → (nI sc - 1).toInt ≤ 65536 := by decide
theorem in_sh {sc : Nat} (s8 : sc ≤ 8) {x : Int32} (h0 : 0 ≤ x) (h1 : x ≤ nI sc - 1) : ∃ a, a < sc ∧ x = nI a := by
  rcases arg_dec (sc := sc) (by omega) x with z | z
  · exact z
  · rcases (show sc = 0 ∨ 0 < sc by omega) with e | e
    · subst e
      exact absurd (Int32.le_trans h0 h1) (by decide)
    · rcases arg_no e (by omega) z with z | z
      · exact absurd z (Int32.not_lt.mpr h0)
      · exact absurd z (Int32.not_lt.mpr h1)
theorem in_100 {x : Int32} (h0 : 0 ≤ x) (h1 : x ≤ 100) : ∃ a, a ≤ 100 ∧ x = nI a := by
  rcases arg_dec (sc := 101) (by omega) x with ⟨a, ha, e⟩ | z
  · exact ⟨a, by omega, e⟩
  · rcases arg_no (sc := 101) (by omega) (by omega) z with z | z
    · exact absurd z (Int32.not_lt.mpr h0)
    · exact absurd z (Int32.not_lt.mpr h1)
/-- what a command's numbers are -/
theorem Y_rs_ok {T : Nat → Int32} {n v sc : Nat} {q : Ps} {N : Nat → Int32} (s8 : sc ≤ 8) (h6 : v < 6) (h : (Y_rs T n (nI sc) v q N).1 = true) : ∃ a nm, nm ≤ 100 ∧ (v = 0 → a = 0) ∧ (v ≠ 0 → a < sc) ∧ (if v = 0 then (0 : Int32) else q.1.2.2.2) = nI a ∧ (qS T n (Y_rs T n (nI sc) v q N).2.1).2.1 = nI nm ∧ (Y_rs T n (nI sc) v q N).2.2 0 = nI (if v = 0 then nm else a) ∧ (v = 3 → (Y_rs T n (nI sc) v q N).2.2 1 = nI nm) := by
  by_cases h0 : v = 0
  · subst h0
    have ey : Y_rs T n (nI sc) 0 q N = ((Y_in 1 100 q).1, (Y_in 1 100 q).2, if (Y_in 1 100 q).1 = true then u1 N 0 q.1.2.2.2 else N) := rfl
    rw [ey] at h ⊢
    obtain ⟨e1, -, e2, e3⟩ := Yin_t h
    obtain ⟨nm, hn, e⟩ := in_100 (Int32.le_trans (by decide) e2) e3
    refine ⟨0, nm, hn, fun _ => rfl, fun z => absurd rfl z, rfl, ?_, ?_, fun z => by omega⟩
    · show (qS T n (Y_in 1 100 q).2).2.1 = _
      rw [e1]; exact e
    · show (if (Y_in 1 100 q).1 = true then u1 N 0 q.1.2.2.2 else N) 0 = _
      rw [if_pos h, u1_same]; exact e
  · by_cases h3 : v = 3
    · subst h3
      have ey : Y_rs T n (nI sc) 3 q N = (if (Y_in 0 (nI sc - 1) q).1 = true then ((Y_in 0 100 (qS T n q)).1, (Y_in 0 100 (qS T n q)).2, if (Y_in 0 100 (qS T n q)).1 = true then u1 (u1 N 0 q.1.2.2.2) 1 (qS T n q).1.2.2.2 else u1 N 0 q.1.2.2.2) else (false, (Y_in 0 (nI sc - 1) q).2, N)) := rfl
      rw [ey] at h ⊢
      cases h1 : (Y_in 0 (nI sc - 1) q).1 with
      | false => rw [h1, if_neg bF] at h; cases h
      | true =>
        rw [h1, if_pos rfl] at h
        obtain ⟨-, -, e2, e3⟩ := Yin_t h1
        obtain ⟨a, ha, ea⟩ := in_sh s8 e2 e3
        have h' : (Y_in 0 100 (qS T n q)).1 = true := h
        obtain ⟨e1, -, e4, e5⟩ := Yin_t h'
        obtain ⟨nm, hn, e⟩ := in_100 e4 e5
        rw [if_pos rfl]
        refine ⟨a, nm, hn, fun z => absurd z h0, fun _ => ha, ea, ?_, ?_, fun _ => ?_⟩
        · show (qS T n (Y_in 0 100 (qS T n q)).2).2.1 = _
          rw [e1]; exact e
        · show (if (Y_in 0 100 (qS T n q)).1 = true then u1 (u1 N 0 q.1.2.2.2) 1 (qS T n q).1.2.2.2 else u1 N 0 q.1.2.2.2) 0 = _
          rw [if_pos h', u1_ne (by omega), u1_same]; exact ea
        · show (if (Y_in 0 100 (qS T n q)).1 = true then u1 (u1 N 0 q.1.2.2.2) 1 (qS T n q).1.2.2.2 else u1 N 0 q.1.2.2.2) 1 = _
          rw [if_pos h', u1_same]; exact e
    · have ey : Y_rs T n (nI sc) v q N = ((Y_in 0 (nI sc - 1) q).1, (Y_in 0 (nI sc - 1) q).2, if (Y_in 0 (nI sc - 1) q).1 = true then u1 N 0 q.1.2.2.2 else N) := by unfold Y_rs; rw [if_neg h0, if_neg h3]
      rw [ey] at h ⊢
      have h' : (Y_in 0 (nI sc - 1) q).1 = true := h
      obtain ⟨e1, -, e2, e3⟩ := Yin_t h'
      obtain ⟨a, ha, ea⟩ := in_sh s8 e2 e3
      refine ⟨a, a, by omega, fun z => absurd z h0, fun _ => ha, by rw [if_neg h0]; exact ea, ?_, ?_, fun z => absurd z h3⟩
      · show (qS T n (Y_in 0 (nI sc - 1) q).2).2.1 = _
        rw [e1]; exact ea
      · show (if (Y_in 0 (nI sc - 1) q).1 = true then u1 N 0 q.1.2.2.2 else N) 0 = _
        rw [if_pos h', u1_same, if_neg h0]; exact ea
theorem Y_add_1 {S : Sq} {v a x : Int32} (h : S.1 < 20) : (Y_add S v a x).1 = S.1 + 1 := by unfold Y_add; rw [if_pos h]
theorem kind_in : ∀ x, x ≤ 9 → (decide (3 ≤ nI x) && decide (nI x ≤ 8)) = true → 3 ≤ x ∧ x ≤ 8 := by decide
theorem kind_out : ∀ x, x ≤ 9 → (decide (3 ≤ nI x) && decide (nI x ≤ 8)) = false → x < 3 ∨ 8 < x := by decide
set_option maxRecDepth 20000 in
theorem cm_MO_failsAtShopNumber {E : En} {h : Hp} {m st mi nu co wd n : Nat} {c0 G0 T Ti N K : Nat → Int32} {R : List (Nat × (Nat → Int32))} {cm e k at9 : Nat} {q : Ps} {w0 : Int32} {c9 : Int32} (hM : MpOk h m st mi nu co wd) (nd : (m :: st :: mi :: nu :: co :: wd :: R.map Prod.fst).Nodup) (hn : n ≤ 500) (hc : c0 5 = nI n) (hT : ∀ j, j < n → Ti j = T j) (hb : BH T n e q) (hG8 : G0 8 = c9) (hc9 : (c9 - 1).toInt ≤ 65536) : CR E m_MO_failsAtShopNumber [.ref m] (wL h ((m, (rM c0 cm e k at9 w0 q.2.2.1 q.2.2.2)) :: (st, G0) :: (mi, Ti) :: (nu, N) :: (co, K) :: (wd, wdR) :: R)) (some (.int (bI (!(Y_in 0 (c9 - 1) q).1)))) (wL h ((m, (rQ c0 cm (Y_in 0 (c9 - 1) q).2 (Z_val T n e w0))) :: (st, G0) :: (mi, Ti) :: (nu, (if (Y_in 0 (c9 - 1) q).1 = true then u1 N 0 q.1.2.2.2 else N)) :: (co, K) :: (wd, wdR) :: R)) := by
  refine ct_of rfl (by decide +kernel) (Nat.le_of_ble_eq_true rfl) ?_
  show G E m_MO_failsAtShopNumber 0 [(0, .ref m)] [] (wL h ((m, (rM c0 cm e k at9 w0 q.2.2.1 q.2.2.2)) :: (st, G0) :: (mi, Ti) :: (nu, N) :: (co, K) :: (wd, wdR) :: R)) 0 0 _ noX
  obtain ⟨k_m, r_m_0, k_st, l_st, r_m_4, k_mi, l_mi, r_m_12, k_nu, l_nu, r_m_13, k_co, l_co, r_m_18, k_wd, l_wd⟩ := id hM
  refine g_aload_n (pc := 0) d_MO_failsAtShopNumber_0 rfl 0 rfl ?_
  refine g_iconst (pc := 1) (v := 0) d_MO_failsAtShopNumber_1 (by decide) ?_
  refine g_iconst (pc := 2) (v := 0) d_MO_failsAtShopNumber_2 (by decide) ?_
  refine g_aload_n (pc := 3) d_MO_failsAtShopNumber_3 rfl 0 rfl ?_
  refine g_getR (pc := 4) (ci := 7) (f := 0) (b := st) rfl r_m_0 d_MO_failsAtShopNumber_4 fl_MO_7 (by decide) k_m ?_
  refine g_bipush (pc := 7) (v := 8) d_MO_failsAtShopNumber_7 (by decide) ?_
  refine g_lia1 (pc := 9) (j := 8) d_MO_failsAtShopNumber_9 k_st l_st (by first | assumption | omega | decide) (by decide) nd ?_
  rw [hG8]
  refine g_iconst (pc := 10) (v := 1) d_MO_failsAtShopNumber_10 (by decide) ?_
  refine g_isub (pc := 11) d_MO_failsAtShopNumber_11 ?_
  refine g_cV1 (pc := 12) (ci := 7) (As := [.int _, .int _, .int _]) d_MO_failsAtShopNumber_12 rfl mv_MO_failsAtNumber st_MO_failsAtShopNumber_214 rfl rfl (by decide) rfl rfl (Nat.le_of_ble_eq_true rfl) k_m (cm_MO_failsAtNumber (p := 0) hM nd hn hc hT hb (by omega) (by decide) hc9) ?_
  refine g_zret (pc := 15) d_MO_failsAtShopNumber_15 rfl (by first | rfl | exact nar_bI _) ?_
  exact ⟨rfl, rfl⟩
set_option maxRecDepth 20000 in
set_option maxHeartbeats 4000000 in
theorem ce_MO_failsAtRest {E : En} {h : Hp} {m st mi nu co wd n : Nat} {c0 G0 T Ti N K : Nat → Int32} {R : List (Nat × (Nat → Int32))} {cm e k at9 : Nat} {q : Ps} {w0 : Int32} {c9 : Int32} {v : Nat} (hM : MpOk h m st mi nu co wd) (nd : (m :: st :: mi :: nu :: co :: wd :: R.map Prod.fst).Nodup) (hn : n ≤ 500) (hc : c0 5 = nI n) (hT : ∀ j, j < n → Ti j = T j) (hb : BH T n e q) (hG8 : G0 8 = c9) (hc9 : (c9 - 1).toInt ≤ 65536) (h6 : v < 6) : CT E m_MO_failsAtRest [.ref m, .int (nI (v + 3))] (wL h ((m, (rM c0 cm e k at9 w0 q.2.2.1 q.2.2.2)) :: (st, G0) :: (mi, Ti) :: (nu, N) :: (co, K) :: (wd, wdR) :: R)) 0 0 (fun v1 h9 => ∃ z : Int32, (VQ (Y_rs T n c9 v q N).2.1 z ∧ TW T n (Y_rs T n c9 v q N).2.1.1) ∧ v1 = some (.int (bI (!(Y_rs T n c9 v q N).1))) ∧ h9 = wL h ((m, (rQ c0 cm (Y_rs T n c9 v q N).2.1 z)) :: (st, G0) :: (mi, Ti) :: (nu, (Y_rs T n c9 v q N).2.2) :: (co, K) :: (wd, wdR) :: R)) noX := by
  refine ct_of rfl (by decide +kernel) (Nat.le_of_ble_eq_true rfl) ?_
  show G E m_MO_failsAtRest 0 [(0, .ref m), (1, .int (nI (v + 3)))] [] (wL h ((m, (rM c0 cm e k at9 w0 q.2.2.1 q.2.2.2)) :: (st, G0) :: (mi, Ti) :: (nu, N) :: (co, K) :: (wd, wdR) :: R)) 0 0 _ noX
  obtain ⟨k_m, r_m_0, k_st, l_st, r_m_4, k_mi, l_mi, r_m_12, k_nu, l_nu, r_m_13, k_co, l_co, r_m_18, k_wd, l_wd⟩ := id hM
  have hv0 := hb.vq (w := w0)
  have ht0 := hb.tw
  refine g_iload_n (pc := 0) d_MO_failsAtRest_0 rfl 1 rfl ?_
  rcases (show v = 0 ∨ v = 3 ∨ v = 1 ∨ v = 2 ∨ v = 4 ∨ v = 5 by omega) with rfl | rfl | rfl | rfl | rfl | rfl
  · skip
    refine g_lookup (pc := 1) (off := 27) (tgt := 28) d_MO_failsAtRest_1 (by decide) (by decide) (by decide) ?_
    refine g_aload_n (pc := 28) d_MO_failsAtRest_28 rfl 0 rfl ?_
    refine g_iconst (pc := 29) (v := 0) d_MO_failsAtRest_29 (by decide) ?_
    refine g_iconst (pc := 30) (v := 1) d_MO_failsAtRest_30 (by decide) ?_
    refine g_bipush (pc := 31) (v := 100) d_MO_failsAtRest_31 (by decide) ?_
    refine g_cV1 (pc := 33) (ci := 7) (As := [.int _, .int _, .int _]) d_MO_failsAtRest_33 rfl mv_MO_failsAtNumber st_MO_failsAtRest_214 rfl rfl (by decide) rfl rfl (Nat.le_of_ble_eq_true rfl) k_m (cm_MO_failsAtNumber (p := 0) hM nd hn hc hT hb (by omega) (by decide) (by decide)) ?_
    refine g_zret (pc := 36) d_MO_failsAtRest_36 rfl (by first | rfl | exact nar_bI _) ?_
    exact ⟨_, ⟨VQ_in hv0, TW_in ht0⟩, rfl, rfl⟩
  · skip
    refine g_lookup (pc := 1) (off := 36) (tgt := 37) d_MO_failsAtRest_1 (by decide) (by decide) (by decide) ?_
    refine g_aload_n (pc := 37) d_MO_failsAtRest_37 rfl 0 rfl ?_
    refine g_cV1 (pc := 38) (ci := 7) (As := []) d_MO_failsAtRest_38 rfl mv_MO_failsAtShopNumber st_MO_failsAtRest_242 rfl rfl (by decide) rfl rfl (Nat.le_of_ble_eq_true rfl) k_m (cm_MO_failsAtShopNumber hM nd hn hc hT hb hG8 hc9) ?_
    refine g_if_ne (pc := 41) (tgt := 55) d_MO_failsAtRest_41 (by decide) (fun c_41 => ?_) (fun c_41 => ?_)
    · skip
      have y1 : (Y_in 0 (c9 - 1) q).1 = false := by have := bI_n0 c_41; revert this; cases (Y_in 0 (c9 - 1) q).1 <;> decide
      refine g_iconst (pc := 55) (v := 1) d_MO_failsAtRest_55 (by decide) ?_
      refine g_goto (pc := 56) (tgt := 60) d_MO_failsAtRest_56 (by decide) ?_
      refine g_zret (pc := 60) d_MO_failsAtRest_60 rfl (by first | rfl | exact nar_bI _) ?_
      first
      | (have ey : Y_rs T n c9 3 q N = (false, (Y_in 0 (c9 - 1) q).2, N) := by show (if (Y_in 0 (c9 - 1) q).1 = true then _ else _) = _; rw [if_neg (by rw [y1]; decide)]
         rw [ey, if_neg (by rw [y1]; decide)]
         exact ⟨_, ⟨VQ_in hv0, TW_in ht0⟩, rfl, rfl⟩)
      | (have ey : Y_rs T n c9 3 q N = ((Y_in 0 100 (qS T n q)).1, (Y_in 0 100 (qS T n q)).2, if (Y_in 0 100 (qS T n q)).1 = true then u1 (u1 N 0 q.1.2.2.2) 1 (qS T n q).1.2.2.2 else u1 N 0 q.1.2.2.2) := by show (if (Y_in 0 (c9 - 1) q).1 = true then _ else _) = _; rw [if_pos y1]
         rw [ey]
         exact ⟨_, ⟨VQ_in (BH_qS ht0.1).vq, TW_in (BH_qS ht0.1).tw⟩, by rw [y2]; rfl, rfl⟩)
    · skip
      have y1 : (Y_in 0 (c9 - 1) q).1 = true := by have := bI_0.mp c_41; revert this; cases (Y_in 0 (c9 - 1) q).1 <;> decide
      refine g_h (h' := wL h ((m, (rM c0 cm q.1.2.2.1 q.1.1 q.1.2.1 (Z_val T n e w0) (qS T n q).2.2.1 (qS T n q).2.2.2)) :: (st, G0) :: (mi, Ti) :: (nu, (u1 N 0 q.1.2.2.2)) :: (co, K) :: (wd, wdR) :: R)) (by rw [if_pos y1, (Yin_t y1).1]; rfl) ?_
      refine g_aload_n (pc := 44) d_MO_failsAtRest_44 rfl 0 rfl ?_
      refine g_iconst (pc := 45) (v := 1) d_MO_failsAtRest_45 (by decide) ?_
      refine g_iconst (pc := 46) (v := 0) d_MO_failsAtRest_46 (by decide) ?_
      refine g_bipush (pc := 47) (v := 100) d_MO_failsAtRest_47 (by decide) ?_
      refine g_cV1 (pc := 49) (ci := 7) (As := [.int _, .int _, .int _]) d_MO_failsAtRest_49 rfl mv_MO_failsAtNumber st_MO_failsAtRest_214 rfl rfl (by decide) rfl rfl (Nat.le_of_ble_eq_true rfl) k_m (cm_MO_failsAtNumber (p := 1) (q := qS T n q) (e := q.1.2.2.1) hM nd hn hc hT (BH_qS ht0.1) (by omega) (by decide) (by decide)) ?_
      refine g_if_eq (pc := 52) (tgt := 59) d_MO_failsAtRest_52 (by decide) (fun c_52 => ?_) (fun c_52 => ?_)
      · skip
        have y2 : (Y_in 0 100 (qS T n q)).1 = true := by have := bI_0.mp c_52; revert this; cases (Y_in 0 100 (qS T n q)).1 <;> decide
        refine g_iconst (pc := 59) (v := 0) d_MO_failsAtRest_59 (by decide) ?_
        refine g_zret (pc := 60) d_MO_failsAtRest_60 rfl (by first | rfl | exact nar_bI _) ?_
        first
        | (have ey : Y_rs T n c9 3 q N = (false, (Y_in 0 (c9 - 1) q).2, N) := by show (if (Y_in 0 (c9 - 1) q).1 = true then _ else _) = _; rw [if_neg (by rw [y1]; decide)]
           rw [ey, if_neg (by rw [y1]; decide)]
           exact ⟨_, ⟨VQ_in hv0, TW_in ht0⟩, rfl, rfl⟩)
        | (have ey : Y_rs T n c9 3 q N = ((Y_in 0 100 (qS T n q)).1, (Y_in 0 100 (qS T n q)).2, if (Y_in 0 100 (qS T n q)).1 = true then u1 (u1 N 0 q.1.2.2.2) 1 (qS T n q).1.2.2.2 else u1 N 0 q.1.2.2.2) := by show (if (Y_in 0 (c9 - 1) q).1 = true then _ else _) = _; rw [if_pos y1]
           rw [ey]
           exact ⟨_, ⟨VQ_in (BH_qS ht0.1).vq, TW_in (BH_qS ht0.1).tw⟩, by rw [y2]; rfl, rfl⟩)
      · skip
        have y2 : (Y_in 0 100 (qS T n q)).1 = false := by have := bI_n0 c_52; revert this; cases (Y_in 0 100 (qS T n q)).1 <;> decide
        refine g_iconst (pc := 55) (v := 1) d_MO_failsAtRest_55 (by decide) ?_
        refine g_goto (pc := 56) (tgt := 60) d_MO_failsAtRest_56 (by decide) ?_
        refine g_zret (pc := 60) d_MO_failsAtRest_60 rfl (by first | rfl | exact nar_bI _) ?_
        first
        | (have ey : Y_rs T n c9 3 q N = (false, (Y_in 0 (c9 - 1) q).2, N) := by show (if (Y_in 0 (c9 - 1) q).1 = true then _ else _) = _; rw [if_neg (by rw [y1]; decide)]
           rw [ey, if_neg (by rw [y1]; decide)]
           exact ⟨_, ⟨VQ_in hv0, TW_in ht0⟩, rfl, rfl⟩)
        | (have ey : Y_rs T n c9 3 q N = ((Y_in 0 100 (qS T n q)).1, (Y_in 0 100 (qS T n q)).2, if (Y_in 0 100 (qS T n q)).1 = true then u1 (u1 N 0 q.1.2.2.2) 1 (qS T n q).1.2.2.2 else u1 N 0 q.1.2.2.2) := by show (if (Y_in 0 (c9 - 1) q).1 = true then _ else _) = _; rw [if_pos y1]
           rw [ey]
           exact ⟨_, ⟨VQ_in (BH_qS ht0.1).vq, TW_in (BH_qS ht0.1).tw⟩, by rw [y2]; rfl, rfl⟩)
  · skip
    refine g_lookup (pc := 1) (off := 60) (tgt := 61) d_MO_failsAtRest_1 (by decide) (by decide) (by decide) ?_
    refine g_aload_n (pc := 61) d_MO_failsAtRest_61 rfl 0 rfl ?_
    refine g_cV1 (pc := 62) (ci := 7) (As := []) d_MO_failsAtRest_62 rfl mv_MO_failsAtShopNumber st_MO_failsAtRest_242 rfl rfl (by decide) rfl rfl (Nat.le_of_ble_eq_true rfl) k_m (cm_MO_failsAtShopNumber hM nd hn hc hT hb hG8 hc9) ?_
    refine g_zret (pc := 65) d_MO_failsAtRest_65 rfl (by first | rfl | exact nar_bI _) ?_
    exact ⟨_, ⟨VQ_in hv0, TW_in ht0⟩, rfl, rfl⟩
  · skip
    refine g_lookup (pc := 1) (off := 60) (tgt := 61) d_MO_failsAtRest_1 (by decide) (by decide) (by decide) ?_
    refine g_aload_n (pc := 61) d_MO_failsAtRest_61 rfl 0 rfl ?_
    refine g_cV1 (pc := 62) (ci := 7) (As := []) d_MO_failsAtRest_62 rfl mv_MO_failsAtShopNumber st_MO_failsAtRest_242 rfl rfl (by decide) rfl rfl (Nat.le_of_ble_eq_true rfl) k_m (cm_MO_failsAtShopNumber hM nd hn hc hT hb hG8 hc9) ?_
    refine g_zret (pc := 65) d_MO_failsAtRest_65 rfl (by first | rfl | exact nar_bI _) ?_
    exact ⟨_, ⟨VQ_in hv0, TW_in ht0⟩, rfl, rfl⟩
  · skip
    refine g_lookup (pc := 1) (off := 60) (tgt := 61) d_MO_failsAtRest_1 (by decide) (by decide) (by decide) ?_
    refine g_aload_n (pc := 61) d_MO_failsAtRest_61 rfl 0 rfl ?_
    refine g_cV1 (pc := 62) (ci := 7) (As := []) d_MO_failsAtRest_62 rfl mv_MO_failsAtShopNumber st_MO_failsAtRest_242 rfl rfl (by decide) rfl rfl (Nat.le_of_ble_eq_true rfl) k_m (cm_MO_failsAtShopNumber hM nd hn hc hT hb hG8 hc9) ?_
    refine g_zret (pc := 65) d_MO_failsAtRest_65 rfl (by first | rfl | exact nar_bI _) ?_
    exact ⟨_, ⟨VQ_in hv0, TW_in ht0⟩, rfl, rfl⟩
  · skip
    refine g_lookup (pc := 1) (off := 60) (tgt := 61) d_MO_failsAtRest_1 (by decide) (by decide) (by decide) ?_
    refine g_aload_n (pc := 61) d_MO_failsAtRest_61 rfl 0 rfl ?_
    refine g_cV1 (pc := 62) (ci := 7) (As := []) d_MO_failsAtRest_62 rfl mv_MO_failsAtShopNumber st_MO_failsAtRest_242 rfl rfl (by decide) rfl rfl (Nat.le_of_ble_eq_true rfl) k_m (cm_MO_failsAtShopNumber hM nd hn hc hT hb hG8 hc9) ?_
    refine g_zret (pc := 65) d_MO_failsAtRest_65 rfl (by first | rfl | exact nar_bI _) ?_
    exact ⟨_, ⟨VQ_in hv0, TW_in ht0⟩, rfl, rfl⟩
set_option maxRecDepth 20000 in
set_option maxHeartbeats 4000000 in
theorem ce_MO_failsAtCommand {E : En} {h : Hp} {m st mi nu co wd n : Nat} {c0 G0 T Ti N K : Nat → Int32} {R : List (Nat × (Nat → Int32))} {cm sc : Nat} {q : Ps} {w : Int32} {S : Sq} (hM : MpOk h m st mi nu co wd) (nd : (m :: st :: mi :: nu :: co :: wd :: R.map Prod.fst).Nodup) (hn : n ≤ 500) (hc : c0 5 = nI n) (hT : ∀ j, j < n → Ti j = T j) (hq : TW T n q.1) (hv : VQ q w) (hG8 : G0 8 = nI sc) (s8 : sc ≤ 8) (hS : S.1 = cm) (h20 : cm < 20) (hR : CmR sc S K) : CT E m_MO_failsAtCommand [.ref m] (wL h ((m, (rQ c0 cm q w)) :: (st, G0) :: (mi, Ti) :: (nu, N) :: (co, K) :: (wd, wdR) :: R)) 0 0 (fun v1 h9 => ∃ z : Int32 × (Nat → Int32) × (Nat → Int32) × Nat, (VQ (Y_cmd T n (nI sc) q S).2.1 z.1 ∧ TW T n (Y_cmd T n (nI sc) q S).2.1.1 ∧ ((Y_cmd T n (nI sc) q S).1 = true → z.2.2.2 = cm + 1 ∧ (Y_cmd T n (nI sc) q S).2.2.1 = cm + 1 ∧ CmR sc (Y_cmd T n (nI sc) q S).2.2 z.2.2.1)) ∧ v1 = some (.int (bI (!(Y_cmd T n (nI sc) q S).1))) ∧ h9 = wL h ((m, (rQ c0 z.2.2.2 (Y_cmd T n (nI sc) q S).2.1 z.1)) :: (st, G0) :: (mi, Ti) :: (nu, z.2.1) :: (co, z.2.2.1) :: (wd, wdR) :: R)) noX := by
  refine ct_of rfl (by decide +kernel) (Nat.le_of_ble_eq_true rfl) ?_
  show G E m_MO_failsAtCommand 0 [(0, .ref m)] [] (wL h ((m, (rQ c0 cm q w)) :: (st, G0) :: (mi, Ti) :: (nu, N) :: (co, K) :: (wd, wdR) :: R)) 0 0 _ noX
  obtain ⟨k_m, r_m_0, k_st, l_st, r_m_4, k_mi, l_mi, r_m_12, k_nu, l_nu, r_m_13, k_co, l_co, r_m_18, k_wd, l_wd⟩ := id hM
  obtain ⟨v9, v9e⟩ := (Y_verb_z (T := T) (t := q.1))
  refine g_aload_n (pc := 0) d_MO_failsAtCommand_0 rfl 0 rfl ?_
  refine g_cV1 (pc := 1) (ci := 7) (As := []) d_MO_failsAtCommand_1 rfl mv_MO_wordOf st_MO_failsAtCommand_211 rfl rfl (by decide) rfl rfl (Nat.le_of_ble_eq_true rfl) k_m (cm_MO_wordOf hM nd hn hc hT hq) ?_
  refine g_istore_n (pc := 4) (lv' := [(1, .int (nI (Z_word T q.1 9 0))), (0, .ref m)]) d_MO_failsAtCommand_4 rfl (by decide) rfl ?_
  refine g_iload_n (pc := 5) d_MO_failsAtCommand_5 rfl 0 rfl ?_
  refine g_iconst (pc := 6) (v := 3) d_MO_failsAtCommand_6 (by decide) ?_
  refine g_bipush (pc := 7) (v := 8) d_MO_failsAtCommand_7 (by decide) ?_
  refine g_cS1 (pc := 9) (As := [.int _, .int _, .int _]) d_MO_failsAtCommand_9 rfl ms_MO_in st_MO_failsAtCommand_161 rfl rfl (Nat.le_of_ble_eq_true rfl) (cm_MO_inB ) ?_
  refine g_if_ne (pc := 12) (tgt := 21) d_MO_failsAtCommand_12 (by decide) (fun c_12 => ?_) (fun c_12 => ?_)
  · skip
    have hz9 : 3 ≤ Z_word T q.1 9 0 ∧ Z_word T q.1 9 0 ≤ 8 := by
      have z := bI_n0 c_12
      have zl := Z_word_le (T := T) (t := q.1) 9 0 rfl
      revert z zl
      generalize Z_word T q.1 9 0 = x
      intro z zl
      exact kind_in x zl z
    obtain ⟨v, hvz⟩ : ∃ v, Z_word T q.1 9 0 = v + 3 := ⟨Z_word T q.1 9 0 - 3, by omega⟩
    have h6 : v < 6 := by omega
    have hverb := v9 v h6 hvz
    rw [hvz]
    have ey := Y_cmd_rs (n := n) (c := nI sc) (S := S) (N := N) hverb h6
    refine g_aload_n (pc := 21) d_MO_failsAtCommand_21 rfl 1 rfl ?_
    refine g_lgI0 (pc := 22) (ci := 7) (f := 14) rfl d_MO_failsAtCommand_22 fl_MO_196 (by decide) k_m nd ?_
    refine g_top (y := nI cm) rfl ?_
    refine g_bipush (pc := 25) (v := 20) d_MO_failsAtCommand_25 (by decide) ?_
    refine g_icmp_ne (pc := 27) (tgt := 36) d_MO_failsAtCommand_27 (by decide) (fun c_27 => ?_) (fun c_27 => ?_)
    · skip
      refine g_aload_n (pc := 36) d_MO_failsAtCommand_36 rfl 1 rfl ?_
      refine g_iload_n (pc := 37) d_MO_failsAtCommand_37 rfl 0 rfl ?_
      refine g_cVx (pc := 38) (ci := 7) (As := [.int _]) d_MO_failsAtCommand_38 rfl mv_MO_failsAtRest st_MO_failsAtCommand_245 rfl rfl (by decide) rfl rfl (Nat.le_of_ble_eq_true rfl) k_m (ce_MO_failsAtRest (q := Y_next T n q) (e := q.1.2.2.1) hM nd hn hc hT (BH_next hq.1) hG8 (sc_hi sc s8) h6) (fun z0 hz0 => ?_)
      refine g_if_eq (pc := 41) (tgt := 46) d_MO_failsAtCommand_41 (by decide) (fun c_41 => ?_) (fun c_41 => ?_)
      · skip
        have y1 : (Y_rs T n (nI sc) v (Y_next T n q) N).1 = true := by have := bI_0.mp c_41; revert this; cases (Y_rs T n (nI sc) v (Y_next T n q) N).1 <;> decide
        rw [if_pos y1] at ey
        refine g_aload_n (pc := 46) d_MO_failsAtCommand_46 rfl 1 rfl ?_
        refine g_getR (pc := 47) (ci := 7) (f := 13) (b := co) rfl r_m_13 d_MO_failsAtCommand_47 fl_MO_28 (by decide) k_m ?_
        refine g_iconst (pc := 50) (v := 3) d_MO_failsAtCommand_50 (by decide) ?_
        refine g_aload_n (pc := 51) d_MO_failsAtCommand_51 rfl 1 rfl ?_
        refine g_lgI0 (pc := 52) (ci := 7) (f := 14) rfl d_MO_failsAtCommand_52 fl_MO_196 (by decide) k_m nd ?_
        refine g_top (y := nI cm) rfl ?_
        refine g_imul (pc := 55) d_MO_failsAtCommand_55 ?_
        refine g_iload_n (pc := 56) d_MO_failsAtCommand_56 rfl 0 rfl ?_
        refine g_top2 (y := nI (3 * cm)) (nI_mul 3 cm) ?_
        refine g_lis4 (pc := 57) (j := (3 * cm)) d_MO_failsAtCommand_57 k_co l_co (by first | assumption | omega | decide) (by decide) nd ?_
        refine g_aload_n (pc := 58) d_MO_failsAtCommand_58 rfl 1 rfl ?_
        refine g_getR (pc := 59) (ci := 7) (f := 13) (b := co) rfl r_m_13 d_MO_failsAtCommand_59 fl_MO_28 (by decide) k_m ?_
        refine g_iconst (pc := 62) (v := 3) d_MO_failsAtCommand_62 (by decide) ?_
        refine g_aload_n (pc := 63) d_MO_failsAtCommand_63 rfl 1 rfl ?_
        refine g_lgI0 (pc := 64) (ci := 7) (f := 14) rfl d_MO_failsAtCommand_64 fl_MO_196 (by decide) k_m nd ?_
        refine g_top (y := nI cm) rfl ?_
        refine g_imul (pc := 67) d_MO_failsAtCommand_67 ?_
        refine g_iconst (pc := 68) (v := 1) d_MO_failsAtCommand_68 (by decide) ?_
        refine g_iadd (pc := 69) d_MO_failsAtCommand_69 ?_
        refine g_aload_n (pc := 70) d_MO_failsAtCommand_70 rfl 1 rfl ?_
        refine g_getR (pc := 71) (ci := 7) (f := 12) (b := nu) rfl r_m_12 d_MO_failsAtCommand_71 fl_MO_25 (by decide) k_m ?_
        refine g_iconst (pc := 74) (v := 0) d_MO_failsAtCommand_74 (by decide) ?_
        refine g_lia3 (pc := 75) (j := 0) d_MO_failsAtCommand_75 k_nu l_nu (by first | assumption | omega | decide) (by decide) nd ?_
        refine g_top2 (y := nI (3 * cm + 1)) (by rw [← nI_add, ← nI_mul]; rfl) ?_
        refine g_lis4 (pc := 76) (j := (3 * cm + 1)) d_MO_failsAtCommand_76 k_co l_co (by first | assumption | omega | decide) (by decide) nd ?_
        refine g_aload_n (pc := 77) d_MO_failsAtCommand_77 rfl 1 rfl ?_
        refine g_getR (pc := 78) (ci := 7) (f := 13) (b := co) rfl r_m_13 d_MO_failsAtCommand_78 fl_MO_28 (by decide) k_m ?_
        refine g_iconst (pc := 81) (v := 3) d_MO_failsAtCommand_81 (by decide) ?_
        refine g_aload_n (pc := 82) d_MO_failsAtCommand_82 rfl 1 rfl ?_
        refine g_lgI0 (pc := 83) (ci := 7) (f := 14) rfl d_MO_failsAtCommand_83 fl_MO_196 (by decide) k_m nd ?_
        refine g_top (y := nI cm) rfl ?_
        refine g_imul (pc := 86) d_MO_failsAtCommand_86 ?_
        refine g_iconst (pc := 87) (v := 2) d_MO_failsAtCommand_87 (by decide) ?_
        refine g_iadd (pc := 88) d_MO_failsAtCommand_88 ?_
        refine g_aload_n (pc := 89) d_MO_failsAtCommand_89 rfl 1 rfl ?_
        refine g_getR (pc := 90) (ci := 7) (f := 12) (b := nu) rfl r_m_12 d_MO_failsAtCommand_90 fl_MO_25 (by decide) k_m ?_
        refine g_iconst (pc := 93) (v := 1) d_MO_failsAtCommand_93 (by decide) ?_
        refine g_lia3 (pc := 94) (j := 1) d_MO_failsAtCommand_94 k_nu l_nu (by first | assumption | omega | decide) (by decide) nd ?_
        refine g_top2 (y := nI (3 * cm + 2)) (by rw [← nI_add, ← nI_mul]; rfl) ?_
        refine g_lis4 (pc := 95) (j := (3 * cm + 2)) d_MO_failsAtCommand_95 k_co l_co (by first | assumption | omega | decide) (by decide) nd ?_
        refine g_aload_n (pc := 96) d_MO_failsAtCommand_96 rfl 1 rfl ?_
        refine g_dup (pc := 97) d_MO_failsAtCommand_97 rfl ?_
        refine g_lgI0 (pc := 98) (ci := 7) (f := 14) rfl d_MO_failsAtCommand_98 fl_MO_196 (by decide) k_m nd ?_
        refine g_top (y := nI cm) rfl ?_
        refine g_iconst (pc := 101) (v := 1) d_MO_failsAtCommand_101 (by decide) ?_
        refine g_iadd (pc := 102) d_MO_failsAtCommand_102 ?_
        refine g_top (nI_1 cm) ?_
        refine g_lpE0 (pc := 103) (ci := 7) (f := 14) (hg := rM_p14 (x := (cm + 1))) rfl d_MO_failsAtCommand_103 fl_MO_196 (fun q hq => by cases hq; exact rfl) rfl rfl (by decide) k_m nd ?_
        refine g_aload_n (pc := 106) d_MO_failsAtCommand_106 rfl 1 rfl ?_
        refine g_cVx (pc := 107) (ci := 7) (As := []) d_MO_failsAtCommand_107 rfl mv_MO_failsAtNext st_MO_failsAtCommand_218 rfl rfl (by decide) rfl rfl (Nat.le_of_ble_eq_true rfl) k_m (ce_MO_failsAtNext (q := qS T n (Y_rs T n (nI sc) v (Y_next T n q) N).2.1) (e := (Y_rs T n (nI sc) v (Y_next T n q) N).2.1.1.2.2.1) hM nd hn hc hT (BH_qS hz0.2.1)) (fun z1 hz1 => ?_)
        refine g_zret (pc := 110) d_MO_failsAtCommand_110 rfl (by first | rfl | exact nar_bI _) ?_
        obtain ⟨a, nm, r1, r2, r3, r4, r5, r6, r7⟩ := Y_rs_ok (T := T) (n := n) (q := Y_next T n q) (N := N) s8 h6 y1
        rw [ey, r4]
        refine ⟨(z1, _, _, cm + 1), ⟨hz1.1, hz1.2, fun y => ⟨rfl, ?_, ?_⟩⟩, rfl, rfl⟩
        · show (Y_add S (nI v) (nI a) _).1 = cm + 1
          rw [Y_add_1 (by omega), hS]
        · show CmR sc (Y_add S (nI v) (nI a) (qS T n (Y_rs T n (nI sc) v (Y_next T n q) N).2.1).2.1) _
          rw [r5]
          have := CmR_add (x := (Y_rs T n (nI sc) v (Y_next T n q) N).2.2 1) hR (by omega) h6 r1 r2 r3 r7
          rw [hS, ← r6] at this
          exact this
      · skip
        have y1 : (Y_rs T n (nI sc) v (Y_next T n q) N).1 = false := by have := bI_n0 c_41; revert this; cases (Y_rs T n (nI sc) v (Y_next T n q) N).1 <;> decide
        rw [if_neg (by rw [y1]; decide)] at ey
        refine g_iconst (pc := 44) (v := 1) d_MO_failsAtCommand_44 (by decide) ?_
        refine g_zret (pc := 45) d_MO_failsAtCommand_45 rfl (by first | rfl | exact nar_bI _) ?_
        rw [ey]
        exact ⟨(z0, (Y_rs T n (nI sc) v (Y_next T n q) N).2.2, K, cm), ⟨hz0.1, hz0.2, fun z => by cases z⟩, rfl, rfl⟩
    · exact absurd ((nI_eq (b := 20) (by omega) (by omega)).mp c_27) (by omega)
  · skip
    have hz9 : Z_word T q.1 9 0 < 3 ∨ 8 < Z_word T q.1 9 0 := by
      have z := bI_0.mp (show bI _ = 0 from c_12)
      have zl := Z_word_le (T := T) (t := q.1) 9 0 rfl
      revert z zl
      generalize Z_word T q.1 9 0 = x
      intro z zl
      exact kind_out x zl z
    have ey := Y_cmd_n (n := n) (c := nI sc) (S := S) (v9e hz9)
    refine g_aload_n (pc := 15) d_MO_failsAtCommand_15 rfl 1 rfl ?_
    refine g_iconst (pc := 16) (v := 1) d_MO_failsAtCommand_16 (by decide) ?_
    refine g_cV1 (pc := 17) (ci := 7) (As := [.int _]) d_MO_failsAtCommand_17 rfl mv_MO_fails st_MO_failsAtCommand_202 rfl rfl (by decide) rfl rfl (Nat.le_of_ble_eq_true rfl) k_m (cm_MO_fails hM nd hn hc hT) ?_
    refine g_zret (pc := 20) d_MO_failsAtCommand_20 rfl (by first | rfl | exact nar_bI _) ?_
    rw [ey]
    exact ⟨(w, N, K, cm), ⟨hv, hq, fun z => by cases z⟩, rfl, rfl⟩
set_option maxRecDepth 20000 in
theorem cm_MO_failsAtCommand20a {E : En} {h : Hp} {m st mi nu co wd n : Nat} {c0 G0 T Ti N K : Nat → Int32} {R : List (Nat × (Nat → Int32))} {q : Ps} {w : Int32} (hM : MpOk h m st mi nu co wd) (nd : (m :: st :: mi :: nu :: co :: wd :: R.map Prod.fst).Nodup) (hn : n ≤ 500) (hc : c0 5 = nI n) (hT : ∀ j, j < n → Ti j = T j) (hq : TW T n q.1) (hz : Z_word T q.1 9 0 < 3 ∨ 8 < Z_word T q.1 9 0) : CR E m_MO_failsAtCommand [.ref m] (wL h ((m, (rQ c0 20 q w)) :: (st, G0) :: (mi, Ti) :: (nu, N) :: (co, K) :: (wd, wdR) :: R)) (some (.int 1)) (wL h ((m, (rQ c0 20 (Y_fail 1 q) w)) :: (st, G0) :: (mi, Ti) :: (nu, N) :: (co, K) :: (wd, wdR) :: R)) := by
  refine ct_of rfl (by decide +kernel) (Nat.le_of_ble_eq_true rfl) ?_
  show G E m_MO_failsAtCommand 0 [(0, .ref m)] [] (wL h ((m, (rQ c0 20 q w)) :: (st, G0) :: (mi, Ti) :: (nu, N) :: (co, K) :: (wd, wdR) :: R)) 0 0 _ noX
  obtain ⟨k_m, r_m_0, k_st, l_st, r_m_4, k_mi, l_mi, r_m_12, k_nu, l_nu, r_m_13, k_co, l_co, r_m_18, k_wd, l_wd⟩ := id hM
  refine g_aload_n (pc := 0) d_MO_failsAtCommand_0 rfl 0 rfl ?_
  refine g_cV1 (pc := 1) (ci := 7) (As := []) d_MO_failsAtCommand_1 rfl mv_MO_wordOf st_MO_failsAtCommand_211 rfl rfl (by decide) rfl rfl (Nat.le_of_ble_eq_true rfl) k_m (cm_MO_wordOf hM nd hn hc hT hq) ?_
  refine g_istore_n (pc := 4) (lv' := [(1, .int (nI (Z_word T q.1 9 0))), (0, .ref m)]) d_MO_failsAtCommand_4 rfl (by decide) rfl ?_
  refine g_iload_n (pc := 5) d_MO_failsAtCommand_5 rfl 0 rfl ?_
  refine g_iconst (pc := 6) (v := 3) d_MO_failsAtCommand_6 (by decide) ?_
  refine g_bipush (pc := 7) (v := 8) d_MO_failsAtCommand_7 (by decide) ?_
  refine g_cS1 (pc := 9) (As := [.int _, .int _, .int _]) d_MO_failsAtCommand_9 rfl ms_MO_in st_MO_failsAtCommand_161 rfl rfl (Nat.le_of_ble_eq_true rfl) (cm_MO_inB ) ?_
  refine g_if_ne (pc := 12) (tgt := 21) d_MO_failsAtCommand_12 (by decide) (fun c_12 => ?_) (fun c_12 => ?_)
  · exact absurd (kind_in _ (Z_word_le (T := T) (t := q.1) 9 0 rfl) (bI_n0 c_12)) (by omega)
  · skip
    refine g_aload_n (pc := 15) d_MO_failsAtCommand_15 rfl 1 rfl ?_
    refine g_iconst (pc := 16) (v := 1) d_MO_failsAtCommand_16 (by decide) ?_
    refine g_cV1 (pc := 17) (ci := 7) (As := [.int _]) d_MO_failsAtCommand_17 rfl mv_MO_fails st_MO_failsAtCommand_202 rfl rfl (by decide) rfl rfl (Nat.le_of_ble_eq_true rfl) k_m (cm_MO_fails hM nd hn hc hT) ?_
    refine g_zret (pc := 20) d_MO_failsAtCommand_20 rfl (by first | rfl | exact nar_bI _) ?_
    exact ⟨rfl, rfl⟩
set_option maxRecDepth 20000 in
theorem cm_MO_failsAtCommand20b {E : En} {h : Hp} {m st mi nu co wd n : Nat} {c0 G0 T Ti N K : Nat → Int32} {R : List (Nat × (Nat → Int32))} {q : Ps} {w : Int32} (hM : MpOk h m st mi nu co wd) (nd : (m :: st :: mi :: nu :: co :: wd :: R.map Prod.fst).Nodup) (hn : n ≤ 500) (hc : c0 5 = nI n) (hT : ∀ j, j < n → Ti j = T j) (hq : TW T n q.1) (hz : 3 ≤ Z_word T q.1 9 0 ∧ Z_word T q.1 9 0 ≤ 8) : CR E m_MO_failsAtCommand [.ref m] (wL h ((m, (rQ c0 20 q w)) :: (st, G0) :: (mi, Ti) :: (nu, N) :: (co, K) :: (wd, wdR) :: R)) (some (.int 1)) (wL h ((m, (rQ c0 20 (Y_fail 4 q) w)) :: (st, G0) :: (mi, Ti) :: (nu, N) :: (co, K) :: (wd, wdR) :: R)) := by
  refine ct_of rfl (by decide +kernel) (Nat.le_of_ble_eq_true rfl) ?_
  show G E m_MO_failsAtCommand 0 [(0, .ref m)] [] (wL h ((m, (rQ c0 20 q w)) :: (st, G0) :: (mi, Ti) :: (nu, N) :: (co, K) :: (wd, wdR) :: R)) 0 0 _ noX
  obtain ⟨k_m, r_m_0, k_st, l_st, r_m_4, k_mi, l_mi, r_m_12, k_nu, l_nu, r_m_13, k_co, l_co, r_m_18, k_wd, l_wd⟩ := id hM
  refine g_aload_n (pc := 0) d_MO_failsAtCommand_0 rfl 0 rfl ?_
  refine g_cV1 (pc := 1) (ci := 7) (As := []) d_MO_failsAtCommand_1 rfl mv_MO_wordOf st_MO_failsAtCommand_211 rfl rfl (by decide) rfl rfl (Nat.le_of_ble_eq_true rfl) k_m (cm_MO_wordOf hM nd hn hc hT hq) ?_
  refine g_istore_n (pc := 4) (lv' := [(1, .int (nI (Z_word T q.1 9 0))), (0, .ref m)]) d_MO_failsAtCommand_4 rfl (by decide) rfl ?_
  refine g_iload_n (pc := 5) d_MO_failsAtCommand_5 rfl 0 rfl ?_
  refine g_iconst (pc := 6) (v := 3) d_MO_failsAtCommand_6 (by decide) ?_
  refine g_bipush (pc := 7) (v := 8) d_MO_failsAtCommand_7 (by decide) ?_
  refine g_cS1 (pc := 9) (As := [.int _, .int _, .int _]) d_MO_failsAtCommand_9 rfl ms_MO_in st_MO_failsAtCommand_161 rfl rfl (Nat.le_of_ble_eq_true rfl) (cm_MO_inB ) ?_
  refine g_if_ne (pc := 12) (tgt := 21) d_MO_failsAtCommand_12 (by decide) (fun c_12 => ?_) (fun c_12 => ?_)
  · skip
    refine g_aload_n (pc := 21) d_MO_failsAtCommand_21 rfl 1 rfl ?_
    refine g_lgI0 (pc := 22) (ci := 7) (f := 14) rfl d_MO_failsAtCommand_22 fl_MO_196 (by decide) k_m nd ?_
    refine g_top (y := nI 20) rfl ?_
    refine g_bipush (pc := 25) (v := 20) d_MO_failsAtCommand_25 (by decide) ?_
    refine g_icmp_ne (pc := 27) (tgt := 36) d_MO_failsAtCommand_27 (by decide) (fun c_27 => ?_) (fun c_27 => ?_)
    · exact absurd rfl c_27
    · skip
      refine g_aload_n (pc := 30) d_MO_failsAtCommand_30 rfl 1 rfl ?_
      refine g_iconst (pc := 31) (v := 4) d_MO_failsAtCommand_31 (by decide) ?_
      refine g_cV1 (pc := 32) (ci := 7) (As := [.int _]) d_MO_failsAtCommand_32 rfl mv_MO_fails st_MO_failsAtCommand_202 rfl rfl (by decide) rfl rfl (Nat.le_of_ble_eq_true rfl) k_m (cm_MO_fails hM nd hn hc hT) ?_
      refine g_zret (pc := 35) d_MO_failsAtCommand_35 rfl (by first | rfl | exact nar_bI _) ?_
      exact ⟨rfl, rfl⟩
  · exact absurd (kind_out _ (Z_word_le (T := T) (t := q.1) 9 0 rfl) (bI_0.mp (show bI _ = 0 from c_12))) (by omega)
set_option maxRecDepth 20000 in
set_option maxHeartbeats 4000000 in
theorem lp_MO_script {E : En} {h : Hp} {m st mi nu co wd n : Nat} {c0 G0 T Ti : Nat → Int32} {R : List (Nat × (Nat → Int32))} {sc : Nat} (hM : MpOk h m st mi nu co wd) (nd : (m :: st :: mi :: nu :: co :: wd :: R.map Prod.fst).Nodup) (hn : n ≤ 500) (hc : c0 5 = nI n) (hT : ∀ j, j < n → Ti j = T j) (hG8 : G0 8 = nI sc) (s8 : sc ≤ 8) : ∀ (d i : Nat) (q : Ps) (w : Int32) (S : Sq) (N K : Nat → Int32), i + d = 20 → S.1 = i → CmR sc S K → TW T n q.1 → VQ q w → G E m_MO_failsAtScript 6 [(1, .int (nI i)), (0, .ref m)] [] (wL h ((m, (rQ c0 i q w)) :: (st, G0) :: (mi, Ti) :: (nu, N) :: (co, K) :: (wd, wdR) :: R)) 0 0 (fun v1 h9 => ∃ z : Int32 × (Nat → Int32) × (Nat → Int32) × Nat, (VQ (Y_cmds T n (nI sc) d q S).2.1 z.1 ∧ TW T n (Y_cmds T n (nI sc) d q S).2.1.1 ∧ ((Y_cmds T n (nI sc) d q S).1 = true → z.2.2.2 = (Y_cmds T n (nI sc) d q S).2.2.1 ∧ z.2.2.2 ≤ 20 ∧ CmR sc (Y_cmds T n (nI sc) d q S).2.2 z.2.2.1)) ∧ v1 = some (.int (bI (!(Y_cmds T n (nI sc) d q S).1))) ∧ h9 = wL h ((m, (rQ c0 z.2.2.2 (Y_cmds T n (nI sc) d q S).2.1 z.1)) :: (st, G0) :: (mi, Ti) :: (nu, z.2.1) :: (co, z.2.2.1) :: (wd, wdR) :: R)) noX := by
  obtain ⟨k_m, r_m_0, k_st, l_st, r_m_4, k_mi, l_mi, r_m_12, k_nu, l_nu, r_m_13, k_co, l_co, r_m_18, k_wd, l_wd⟩ := id hM
  intro d
  induction d with
  | zero =>
    intro i q w S N K hd hS hR hq hv
    have e20 : i = 20 := by omega
    subst e20
    have ey0 : Y_cmds T n (nI sc) 0 q S = if q.1.1 = 0 then (true, q, S) else (false, Y_fail (if Y_verb T q.1 = -1 then 1 else 4) q, S) := rfl
    rw [ey0]
    refine g_iload_n (pc := 6) d_MO_failsAtScript_6 rfl 0 rfl ?_
    refine g_sipush (pc := 7) (v := 500) d_MO_failsAtScript_7 (by decide) ?_
    refine g_icmp_gt (pc := 10) (tgt := 35) d_MO_failsAtScript_10 (by decide) (fun c_10 => ?_) (fun c_10 => ?_)
    · exact absurd ((nI_ltI (a := 500) (b := 20) (by omega) (by omega)).mp c_10) (by omega)
    · skip
      refine g_aload_n (pc := 13) d_MO_failsAtScript_13 rfl 1 rfl ?_
      refine g_lgI0 (pc := 14) (ci := 7) (f := 9) rfl d_MO_failsAtScript_14 fl_MO_184 (by decide) k_m nd ?_
      refine g_top (y := nI q.1.1) rfl ?_
      refine g_if_eq (pc := 17) (tgt := 35) d_MO_failsAtScript_17 (by decide) (fun c_17 => ?_) (fun c_17 => ?_)
      · skip
        have k0 : q.1.1 = 0 := (nI_eq (b := 0) (by have := hq.1.1; omega) (by omega)).mp c_17
        refine g_iconst (pc := 35) (v := 0) d_MO_failsAtScript_35 (by decide) ?_
        refine g_zret (pc := 36) d_MO_failsAtScript_36 rfl (by first | rfl | exact nar_bI _) ?_
        rw [if_pos k0]
        exact ⟨(w, N, K, 20), ⟨hv, hq, fun _ => ⟨hS.symm, hS ▸ (by omega : S.1 ≤ 20), hR⟩⟩, rfl, rfl⟩
      · skip
        have k0 : ¬ q.1.1 = 0 := fun z => c_17 (by rw [z]; rfl)
        by_cases hz : Z_word T q.1 9 0 < 3 ∨ 8 < Z_word T q.1 9 0
        · skip
          refine g_aload_n (pc := 20) d_MO_failsAtScript_20 rfl 1 rfl ?_
          refine g_cV1 (pc := 21) (ci := 7) (As := []) d_MO_failsAtScript_21 rfl mv_MO_failsAtCommand st_MO_failsAtScript_248 rfl rfl (by decide) rfl rfl (Nat.le_of_ble_eq_true rfl) k_m (cm_MO_failsAtCommand20a hM nd hn hc hT hq hz) ?_
          refine g_if_eq (pc := 24) (tgt := 29) d_MO_failsAtScript_24 (by decide) (fun c_24 => ?_) (fun c_24 => ?_)
          · exact absurd c_24 (by decide)
          · skip
            refine g_iconst (pc := 27) (v := 1) d_MO_failsAtScript_27 (by decide) ?_
            refine g_zret (pc := 28) d_MO_failsAtScript_28 rfl (by first | rfl | exact nar_bI _) ?_
            rw [if_neg k0, if_pos ((Y_verb_z (T := T) (t := q.1)).2 hz)]
            exact ⟨(w, N, K, 20), ⟨hv, hq, fun z => by cases z⟩, rfl, rfl⟩
        · skip
          refine g_aload_n (pc := 20) d_MO_failsAtScript_20 rfl 1 rfl ?_
          refine g_cV1 (pc := 21) (ci := 7) (As := []) d_MO_failsAtScript_21 rfl mv_MO_failsAtCommand st_MO_failsAtScript_248 rfl rfl (by decide) rfl rfl (Nat.le_of_ble_eq_true rfl) k_m (cm_MO_failsAtCommand20b hM nd hn hc hT hq (by omega)) ?_
          refine g_if_eq (pc := 24) (tgt := 29) d_MO_failsAtScript_24 (by decide) (fun c_24 => ?_) (fun c_24 => ?_)
          · exact absurd c_24 (by decide)
          · skip
            refine g_iconst (pc := 27) (v := 1) d_MO_failsAtScript_27 (by decide) ?_
            refine g_zret (pc := 28) d_MO_failsAtScript_28 rfl (by first | rfl | exact nar_bI _) ?_
            have e9 := Z_word_le (T := T) (t := q.1) 9 0 rfl
            obtain ⟨v, hvz⟩ : ∃ v, Z_word T q.1 9 0 = v + 3 := ⟨Z_word T q.1 9 0 - 3, by omega⟩
            rw [if_neg k0, if_neg (by rw [(Y_verb_z (T := T) (t := q.1)).1 v (by omega) hvz]; exact (nI_v v (by omega)).1)]
            exact ⟨(w, N, K, 20), ⟨hv, hq, fun z => by cases z⟩, rfl, rfl⟩
  | succ d ih =>
    intro i q w S N K hd hS hR hq hv
    have ey0 : Y_cmds T n (nI sc) (d + 1) q S = if q.1.1 = 0 then (true, q, S) else if (Y_cmd T n (nI sc) q S).1 = true then Y_cmds T n (nI sc) d (Y_cmd T n (nI sc) q S).2.1 (Y_cmd T n (nI sc) q S).2.2 else (false, (Y_cmd T n (nI sc) q S).2) := rfl
    rw [ey0]
    refine g_iload_n (pc := 6) d_MO_failsAtScript_6 rfl 0 rfl ?_
    refine g_sipush (pc := 7) (v := 500) d_MO_failsAtScript_7 (by decide) ?_
    refine g_icmp_gt (pc := 10) (tgt := 35) d_MO_failsAtScript_10 (by decide) (fun c_10 => ?_) (fun c_10 => ?_)
    · exact absurd ((nI_ltI (a := 500) (b := i) (by omega) (by omega)).mp c_10) (by omega)
    · skip
      refine g_aload_n (pc := 13) d_MO_failsAtScript_13 rfl 1 rfl ?_
      refine g_lgI0 (pc := 14) (ci := 7) (f := 9) rfl d_MO_failsAtScript_14 fl_MO_184 (by decide) k_m nd ?_
      refine g_top (y := nI q.1.1) rfl ?_
      refine g_if_eq (pc := 17) (tgt := 35) d_MO_failsAtScript_17 (by decide) (fun c_17 => ?_) (fun c_17 => ?_)
      · skip
        have k0 : q.1.1 = 0 := (nI_eq (b := 0) (by have := hq.1.1; omega) (by omega)).mp c_17
        refine g_iconst (pc := 35) (v := 0) d_MO_failsAtScript_35 (by decide) ?_
        refine g_zret (pc := 36) d_MO_failsAtScript_36 rfl (by first | rfl | exact nar_bI _) ?_
        rw [if_pos k0]
        exact ⟨(w, N, K, i), ⟨hv, hq, fun _ => ⟨hS.symm, hS ▸ (by omega : S.1 ≤ 20), hR⟩⟩, rfl, rfl⟩
      · skip
        have k0 : ¬ q.1.1 = 0 := fun z => c_17 (by rw [z]; rfl)
        refine g_aload_n (pc := 20) d_MO_failsAtScript_20 rfl 1 rfl ?_
        refine g_cVx (pc := 21) (ci := 7) (As := []) d_MO_failsAtScript_21 rfl mv_MO_failsAtCommand st_MO_failsAtScript_248 rfl rfl (by decide) rfl rfl (Nat.le_of_ble_eq_true rfl) k_m (ce_MO_failsAtCommand (sc := sc) (S := S) hM nd hn hc hT hq hv hG8 s8 hS (by omega) hR) (fun z0 hz0 => ?_)
        refine g_if_eq (pc := 24) (tgt := 29) d_MO_failsAtScript_24 (by decide) (fun c_24 => ?_) (fun c_24 => ?_)
        · skip
          have y1 : (Y_cmd T n (nI sc) q S).1 = true := by have := bI_0.mp c_24; revert this; cases (Y_cmd T n (nI sc) q S).1 <;> decide
          obtain ⟨x_1, hx_1⟩ : ∃ y : Int32, y = (nI i) + 1 := ⟨_, rfl⟩
          refine g_iinc (pc := 29) (w := 0) (v := x_1) (lv' := [(1, .int x_1), (0, .ref m)]) d_MO_failsAtScript_29 rfl (by rw [hx_1]; rfl) (by decide) rfl ?_
          refine g_goto (pc := 32) (tgt := 6) d_MO_failsAtScript_32 (by decide) ?_
          have e8 : x_1 = nI (i + 1) := by rw [hx_1]; exact nI_1 _
          clear hx_1
          subst e8
          rw [if_neg k0, if_pos y1]
          obtain ⟨g1, g2, g3⟩ := hz0.2.2 y1
          refine g_h (h' := wL h ((m, (rQ c0 (i + 1) (Y_cmd T n (nI sc) q S).2.1 z0.1)) :: (st, G0) :: (mi, Ti) :: (nu, z0.2.1) :: (co, z0.2.2.1) :: (wd, wdR) :: R)) (by rw [g1]) ?_
          exact ih (i + 1) _ z0.1 _ z0.2.1 z0.2.2.1 (by omega) g2 g3 hz0.2.1 hz0.1
        · skip
          have y1 : (Y_cmd T n (nI sc) q S).1 = false := by have := bI_n0 c_24; revert this; cases (Y_cmd T n (nI sc) q S).1 <;> decide
          refine g_iconst (pc := 27) (v := 1) d_MO_failsAtScript_27 (by decide) ?_
          refine g_zret (pc := 28) d_MO_failsAtScript_28 rfl (by first | rfl | exact nar_bI _) ?_
          rw [if_neg k0, if_neg (by rw [y1]; decide)]
          exact ⟨(z0.1, z0.2.1, z0.2.2.1, z0.2.2.2), ⟨hz0.1, hz0.2.1, fun z => by cases z⟩, rfl, rfl⟩
set_option maxRecDepth 20000 in
theorem ce_MO_failsAtScript {E : En} {h : Hp} {m st mi nu co wd n : Nat} {c0 G0 T Ti N K : Nat → Int32} {R : List (Nat × (Nat → Int32))} {cm nx k at9 sc : Nat} {v e6 e7 : Int32} {q : Ps} {S0 : Sq} (hM : MpOk h m st mi nu co wd) (nd : (m :: st :: mi :: nu :: co :: wd :: R.map Prod.fst).Nodup) (hn : n ≤ 500) (hc : c0 5 = nI n) (hT : ∀ j, j < n → Ti j = T j) (hG8 : G0 8 = nI sc) (s8 : sc ≤ 8) : CT E m_MO_failsAtScript [.ref m] (wL h ((m, (rM c0 cm nx k at9 v e6 e7)) :: (st, G0) :: (mi, Ti) :: (nu, N) :: (co, K) :: (wd, wdR) :: R)) 0 0 (fun v1 h9 => ∃ z : Int32 × (Nat → Int32) × (Nat → Int32) × Nat, (VQ (Y_script T n (nI sc) q S0).2.1 z.1 ∧ TW T n (Y_script T n (nI sc) q S0).2.1.1 ∧ ((Y_script T n (nI sc) q S0).1 = true → z.2.2.2 = (Y_script T n (nI sc) q S0).2.2.1 ∧ z.2.2.2 ≤ 20 ∧ CmR sc (Y_script T n (nI sc) q S0).2.2 z.2.2.1)) ∧ v1 = some (.int (bI (!(Y_script T n (nI sc) q S0).1))) ∧ h9 = wL h ((m, (rQ c0 z.2.2.2 (Y_script T n (nI sc) q S0).2.1 z.1)) :: (st, G0) :: (mi, Ti) :: (nu, z.2.1) :: (co, z.2.2.1) :: (wd, wdR) :: R)) noX := by
  refine ct_of rfl (by decide +kernel) (Nat.le_of_ble_eq_true rfl) ?_
  show G E m_MO_failsAtScript 0 [(0, .ref m)] [] (wL h ((m, (rM c0 cm nx k at9 v e6 e7)) :: (st, G0) :: (mi, Ti) :: (nu, N) :: (co, K) :: (wd, wdR) :: R)) 0 0 _ noX
  obtain ⟨k_m, r_m_0, k_st, l_st, r_m_4, k_mi, l_mi, r_m_12, k_nu, l_nu, r_m_13, k_co, l_co, r_m_18, k_wd, l_wd⟩ := id hM
  refine g_aload_n (pc := 0) d_MO_failsAtScript_0 rfl 0 rfl ?_
  refine g_cV0 (pc := 1) (ci := 7) (As := []) d_MO_failsAtScript_1 rfl mv_MO_beginText st_MO_failsAtScript_224 rfl rfl (by decide) rfl rfl (Nat.le_of_ble_eq_true rfl) k_m (cm_MO_beginText hM nd hn hc hT) ?_
  refine g_iconst (pc := 4) (v := 0) d_MO_failsAtScript_4 (by decide) ?_
  refine g_istore_n (pc := 5) (lv' := [(1, .int (nI 0)), (0, .ref m)]) d_MO_failsAtScript_5 rfl (by decide) rfl ?_
  refine g_h (h' := wL h ((m, (rQ c0 0 (Y_start T n q) (Z_val T n 0 v))) :: (st, G0) :: (mi, Ti) :: (nu, N) :: (co, K) :: (wd, wdR) :: R)) rfl ?_
  exact lp_MO_script hM nd hn hc hT hG8 s8 20 0 (Y_start T n q) (Z_val T n 0 v) (0, S0.2) N K rfl rfl (fun i hi => absurd hi (Nat.not_lt_zero i)) (TW_tok (Nat.zero_le _)) VQ_tok
