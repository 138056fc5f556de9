/-! THE MODEL'S PARSER: a whole setup -/
theorem nI_sur (x : Int32) : ∃ n, x = nI n := ⟨x.toBitVec.toNat, by
  apply Int32.toBitVec_inj.mp
  show x.toBitVec = BitVec.ofNat 32 x.toBitVec.toNat
  rw [BitVec.ofNat_toNat, BitVec.setWidth_eq]⟩
theorem P_addS_7 {B : Bu} {i : Nat} {r : Nat → Int32} : (P_addS B i r).1 7 = B.1 7 := by show u1 B.1 8 (nI (i + 1)) 7 = _; rw [u1_ne (by omega)]
theorem P_addS_8 {B : Bu} {i : Nat} {r : Nat → Int32} : (P_addS B i r).1 8 = nI (i + 1) := by show u1 B.1 8 (nI (i + 1)) 8 = _; rw [u1_same]
theorem P_addS_money {B : Bu} {i : Nat} {r : Nat → Int32} : P_money (P_addS B i r).2.2 (i + 1) = P_money B.2.2 i + (P_addS B i r).2.2 i 15 := by
  rw [P_money, P_money_congr (s := (P_addS B i r).2.2) (s' := B.2.2) i (fun j hj => by show u1 B.2.2 i _ j 15 = _; rw [u1_ne (by omega)])]
theorem Y_shop1_t {T : Nat → Int32} {n i : Nat} {q : Ps} {V : Nat → Int32} {B : Bu} (h : (Y_shop1 T n i q V B).1 = true) : (Y_shop1 T n i q V B).2.2.2 = P_addS B i (Y_shop1 T n i q V B).2.2.1 := by
  unfold Y_shop1 at h ⊢
  dsimp only at h ⊢
  split at h
  · next h1 =>
    split at h
    · next h2 =>
      split at h
      · next h3 => rw [if_pos h1, if_pos h2, if_pos h3]
      · cases h
    · cases h
  · cases h
theorem Y_isw_k {T : Nat → Int32} {t : Tk} {w0 : Nat} (h0 : w0 < 9) (h : Y_isw T t (w0 + 1) = true) : t.1 = 1 := by
  by_cases e : t.1 = 1
  · exact e
  · have := Z_word_no (T := T) e 9 0
    have e2 := (Z_word_iff (T := T) (t := t) h0).mpr h
    omega
theorem Y_setup_f1 {T : Nat → Int32} {n : Nat} {q : Ps} {V : Nat → Int32} {B : Bu} (h : (Y_bur T n (Y_start T n q) V B).1 = false) : Y_setup T n q V B = (false, (Y_bur T n (Y_start T n q) V B).2) := by
  unfold Y_setup
  dsimp only
  rw [if_neg (by rw [h]; decide)]
theorem Y_setup_f2 {T : Nat → Int32} {n : Nat} {q : Ps} {V : Nat → Int32} {B : Bu} (h : (Y_bur T n (Y_start T n q) V B).1 = true) (h2 : (Y_weights T n (Y_bur T n (Y_start T n q) V B).2.1 (Y_bur T n (Y_start T n q) V B).2.2.2 0).1 = false) : Y_setup T n q V B = (false, (Y_weights T n (Y_bur T n (Y_start T n q) V B).2.1 (Y_bur T n (Y_start T n q) V B).2.2.2 0).2.1, (Y_bur T n (Y_start T n q) V B).2.2.1, (Y_weights T n (Y_bur T n (Y_start T n q) V B).2.1 (Y_bur T n (Y_start T n q) V B).2.2.2 0).2.2.1) := by
  unfold Y_setup
  dsimp only
  rw [if_pos h, if_neg (by rw [h2]; decide)]
theorem Y_setup_t {T : Nat → Int32} {n : Nat} {q : Ps} {V : Nat → Int32} {B : Bu} (h : (Y_bur T n (Y_start T n q) V B).1 = true) (h2 : (Y_weights T n (Y_bur T n (Y_start T n q) V B).2.1 (Y_bur T n (Y_start T n q) V B).2.2.2 0).1 = true) : Y_setup T n q V B = Y_sh T n 8 0 (Y_weights T n (Y_bur T n (Y_start T n q) V B).2.1 (Y_bur T n (Y_start T n q) V B).2.2.2 0).2.1 (Y_bur T n (Y_start T n q) V B).2.2.1 (Y_weights T n (Y_bur T n (Y_start T n q) V B).2.1 (Y_bur T n (Y_start T n q) V B).2.2.2 0).2.2.1 := by
  unfold Y_setup
  dsimp only
  rw [if_pos h, if_pos h2]
theorem lp_MO_zero {E : En} {h : Hp} {m st mi nu co wd n : Nat} {c0 G0 T Ti N K : Nat → Int32} {R : List (Nat × (Nat → Int32))} {c : Nat → Int32} {PP : Option Value → Hp → Prop} (hM : MpOk h m st mi nu co wd) (nd : (m :: st :: mi :: nu :: co :: wd :: R.map Prod.fst).Nodup) (hn : n ≤ 500) (hc : c0 5 = nI n) (hT : ∀ j, j < n → Ti j = T j) (kk : G E m_MO_failsAtSetup 26 [(1, .int (nI 140)), (0, .ref m)] [] (wL h ((m, c) :: (st, (Zr G0 140)) :: (mi, Ti) :: (nu, N) :: (co, K) :: (wd, wdR) :: R)) 0 0 PP noX) : ∀ (d i : Nat), i ≤ 140 → 140 - i < d → G E m_MO_failsAtSetup 6 [(1, .int (nI i)), (0, .ref m)] [] (wL h ((m, c) :: (st, (Zr G0 i)) :: (mi, Ti) :: (nu, N) :: (co, K) :: (wd, wdR) :: R)) 0 0 PP noX := by
  obtain ⟨k_m, r_m_0, k_st, l_st, r_m_4, k_mi, l_mi, r_m_12, k_nu, l_nu, r_m_13, k_co, l_co, r_m_18, k_wd, l_wd⟩ := id hM
  intro d
  induction d with
  | zero => intros; omega
  | succ d ih =>
    intro i hi hd
    refine g_iload_n (pc := 6) d_MO_failsAtSetup_6 rfl 0 rfl ?_
    refine g_sipush (pc := 7) (v := 140) d_MO_failsAtSetup_7 (by decide) ?_
    refine g_icmp_ge (pc := 10) (tgt := 26) d_MO_failsAtSetup_10 (by decide) (fun c_10 => ?_) (fun c_10 => ?_)
    · skip
      have e9 : i = 140 := by have := (nI_leI (a := 140) (b := i) (by omega) (by omega)).mp c_10; omega
      rw [e9]
      exact kk
    · skip
      have e9 : i < 140 := by have := mt (nI_leI (a := 140) (b := i) (by omega) (by omega)).mpr c_10; omega
      refine g_aload_n (pc := 13) d_MO_failsAtSetup_13 rfl 1 rfl ?_
      refine g_getR (pc := 14) (ci := 7) (f := 0) (b := st) rfl r_m_0 d_MO_failsAtSetup_14 fl_MO_7 (by decide) k_m ?_
      refine g_iload_n (pc := 17) d_MO_failsAtSetup_17 rfl 0 rfl ?_
      refine g_iconst (pc := 18) (v := 0) d_MO_failsAtSetup_18 (by decide) ?_
      refine g_lis1 (pc := 19) (j := i) d_MO_failsAtSetup_19 k_st l_st (by first | assumption | omega | decide) (by decide) nd ?_
      rw [Zr_S]
      obtain ⟨x_1, hx_1⟩ : ∃ y : Int32, y = (nI i) + 1 := ⟨_, rfl⟩
      refine g_iinc (pc := 20) (w := 0) (v := x_1) (lv' := [(1, .int x_1), (0, .ref m)]) d_MO_failsAtSetup_20 rfl (by rw [hx_1]; rfl) (by decide) rfl ?_
      refine g_goto (pc := 23) (tgt := 6) d_MO_failsAtSetup_23 (by decide) ?_
      have e8 : x_1 = nI (i + 1) := by rw [hx_1]; exact nI_1 _
      clear hx_1
      subst e8
      exact ih (i + 1) (by omega) (by omega)
set_option maxRecDepth 20000 in
set_option maxHeartbeats 4000000 in
theorem lp_MO_shops {E : En} {h : Hp} {m st mi nu co wd n : Nat} {c0 G0 T Ti K : Nat → Int32} {R : List (Nat × (Nat → Int32))} {cm nw : Nat} {x1 : Int32} (hM : MpOk h m st mi nu co wd) (nd : (m :: st :: mi :: nu :: co :: wd :: R.map Prod.fst).Nodup) (hn : n ≤ 500) (hc : c0 5 = nI n) (hT : ∀ j, j < n → Ti j = T j) (n6 : nw ≤ 6) : ∀ (d sc : Nat) (q : Ps) (w : Int32) (V : Nat → Int32) (B : Bu) (N g : Nat → Int32), sc + d = 8 → B.1 7 = nI nw → B.1 8 = nI sc → TW T n q.1 → VQ q w → (∀ j, 20 + 15 * sc ≤ j → j < 140 → g j = 0) → (∀ j, 140 ≤ j → g j = G0 j) → g 12 = P_money B.2.2 sc → G E m_MO_failsAtSetup 42 [(1, .int x1), (0, .ref m)] [] (wL h ((m, (rQ c0 cm q w)) :: (st, (enc nw sc B g)) :: (mi, Ti) :: (nu, N) :: (co, K) :: (wd, wdR) :: R)) 0 0 (fun v1 h9 => ∃ z : Int32 × (Nat → Int32) × (Nat → Int32), (VQ (Y_sh T n d sc q V B).2.1 z.1 ∧ TW T n (Y_sh T n d sc q V B).2.1.1 ∧ (∀ j, 140 ≤ j → z.2.2 j = G0 j) ∧ ((Y_sh T n d sc q V B).1 = true → SetOk (Y_sh T n d sc q V B).2.2.2 z.2.2 G0)) ∧ v1 = some (.int (bI (!(Y_sh T n d sc q V B).1))) ∧ h9 = wL h ((m, (rQ c0 cm (Y_sh T n d sc q V B).2.1 z.1)) :: (st, z.2.2) :: (mi, Ti) :: (nu, z.2.1) :: (co, K) :: (wd, wdR) :: R)) noX := by
  obtain ⟨k_m, r_m_0, k_st, l_st, r_m_4, k_mi, l_mi, r_m_12, k_nu, l_nu, r_m_13, k_co, l_co, r_m_18, k_wd, l_wd⟩ := id hM
  intro d
  induction d with
  | zero =>
    intro sc q w V B N g hd hw hs hq hv hz hg0 hmy
    have e8 : sc = 8 := by omega
    subst e8
    have ey0 : Y_sh T n 0 8 q V B = if q.1.1 = 0 then (true, q, V, B) else (false, Y_fail (if Y_isw T q.1 3 = true then 4 else 1) q, V, B) := rfl
    rw [ey0]
    refine g_aload_n (pc := 42) d_MO_failsAtSetup_42 rfl 1 rfl ?_
    refine g_getR (pc := 43) (ci := 7) (f := 0) (b := st) rfl r_m_0 d_MO_failsAtSetup_43 fl_MO_7 (by decide) k_m ?_
    refine g_bipush (pc := 46) (v := 8) d_MO_failsAtSetup_46 (by decide) ?_
    refine g_lia1 (pc := 48) (j := 8) d_MO_failsAtSetup_48 k_st l_st (by decide) (by decide) nd ?_
    refine g_top (y := nI 8) (by rw [enc_c (by omega)]; exact hs) ?_
    refine g_if_eq (pc := 49) (tgt := 60) d_MO_failsAtSetup_49 (by decide) (fun c_49 => ?_) (fun c_49 => ?_)
    · exact absurd c_49 (nI_ne0 (by omega) (by omega))
    · skip
      refine g_aload_n (pc := 52) d_MO_failsAtSetup_52 rfl 1 rfl ?_
      refine g_cV1 (pc := 53) (ci := 7) (As := []) d_MO_failsAtSetup_53 rfl mv_MO_wordOf st_MO_failsAtSetup_211 rfl rfl (by decide) rfl rfl (Nat.le_of_ble_eq_true rfl) k_m (cm_MO_wordOf hM nd hn hc hT hq) ?_
      refine g_iconst (pc := 56) (v := 2) d_MO_failsAtSetup_56 (by decide) ?_
      refine g_icmp_ne (pc := 57) (tgt := 69) d_MO_failsAtSetup_57 (by decide) (fun c_57 => ?_) (fun c_57 => ?_)
      · skip
        have hw1 : ¬ Y_isw T q.1 3 = true := fun z => c_57 (by rw [(Z_word_iff (w0 := 2) (by omega)).mpr z]; rfl)
        refine g_aload_n (pc := 69) d_MO_failsAtSetup_69 rfl 1 rfl ?_
        refine g_lgI0 (pc := 70) (ci := 7) (f := 9) rfl d_MO_failsAtSetup_70 fl_MO_184 (by decide) k_m nd ?_
        refine g_top (y := nI q.1.1) rfl ?_
        refine g_if_eq (pc := 73) (tgt := 88) d_MO_failsAtSetup_73 (by decide) (fun c_73 => ?_) (fun c_73 => ?_)
        · skip
          have k0 : q.1.1 = 0 := (nI_eq (b := 0) (by have := hq.1.1; omega) (by omega)).mp c_73
          refine g_iconst (pc := 88) (v := 0) d_MO_failsAtSetup_88 (by decide) ?_
          refine g_zret (pc := 89) d_MO_failsAtSetup_89 rfl (by first | rfl | exact nar_bI _) ?_
          first
          | (rw [if_pos k0]; exact ⟨(w, N, enc nw 8 B g), ⟨hv, hq, fun j hj => (enc_out n6 (by omega) hj).trans (hg0 j hj), fun _ => ⟨nw, 8, g, hw, n6, hs, by omega, rfl, hmy, hg0⟩⟩, rfl, rfl⟩)
          | (rw [if_neg k0, if_neg hw1]; exact ⟨(w, N, enc nw 8 B g), ⟨hv, hq, fun j hj => (enc_out n6 (by omega) hj).trans (hg0 j hj), fun z => by cases z⟩, rfl, rfl⟩)
        · skip
          have k0 : ¬ q.1.1 = 0 := fun z => c_73 (by rw [z]; rfl)
          refine g_aload_n (pc := 76) d_MO_failsAtSetup_76 rfl 1 rfl ?_
          refine g_iconst (pc := 77) (v := 1) d_MO_failsAtSetup_77 (by decide) ?_
          refine g_cV1 (pc := 78) (ci := 7) (As := [.int _]) d_MO_failsAtSetup_78 rfl mv_MO_fails st_MO_failsAtSetup_202 rfl rfl (by decide) rfl rfl (Nat.le_of_ble_eq_true rfl) k_m (cm_MO_fails hM nd hn hc hT) ?_
          refine g_if_eq (pc := 81) (tgt := 88) d_MO_failsAtSetup_81 (by decide) (fun c_81 => ?_) (fun c_81 => ?_)
          · exact absurd c_81 (by decide)
          · skip
            refine g_iconst (pc := 84) (v := 1) d_MO_failsAtSetup_84 (by decide) ?_
            refine g_goto (pc := 85) (tgt := 89) d_MO_failsAtSetup_85 (by decide) ?_
            refine g_zret (pc := 89) d_MO_failsAtSetup_89 rfl (by first | rfl | exact nar_bI _) ?_
            first
            | (rw [if_pos k0]; exact ⟨(w, N, enc nw 8 B g), ⟨hv, hq, fun j hj => (enc_out n6 (by omega) hj).trans (hg0 j hj), fun _ => ⟨nw, 8, g, hw, n6, hs, by omega, rfl, hmy, hg0⟩⟩, rfl, rfl⟩)
            | (rw [if_neg k0, if_neg hw1]; exact ⟨(w, N, enc nw 8 B g), ⟨hv, hq, fun j hj => (enc_out n6 (by omega) hj).trans (hg0 j hj), fun z => by cases z⟩, rfl, rfl⟩)
      · skip
        have hw1 : Y_isw T q.1 3 = true := (Z_word_iff (w0 := 2) (by omega)).mp ((nI_eq (b := 2) (by have := Z_word_le (T := T) (t := q.1) 9 0 rfl; omega) (by omega)).mp c_57)
        have k1 : ¬ q.1.1 = 0 := by rw [Y_isw_k (w0 := 2) (by omega) hw1]; decide
        refine g_aload_n (pc := 60) d_MO_failsAtSetup_60 rfl 1 rfl ?_
        refine g_cV1 (pc := 61) (ci := 7) (As := []) d_MO_failsAtSetup_61 rfl mv_MO_failsAtShop st_MO_failsAtSetup_233 rfl rfl (by decide) rfl rfl (Nat.le_of_ble_eq_true rfl) k_m (cm_MO_failsAtShop9 hM nd hn hc hT hq hs hw1) ?_
        refine g_if_eq (pc := 64) (tgt := 42) d_MO_failsAtSetup_64 (by decide) (fun c_64 => ?_) (fun c_64 => ?_)
        · exact absurd c_64 (by decide)
        · skip
          refine g_iconst (pc := 67) (v := 1) d_MO_failsAtSetup_67 (by decide) ?_
          refine g_zret (pc := 68) d_MO_failsAtSetup_68 rfl (by first | rfl | exact nar_bI _) ?_
          rw [if_neg k1, if_pos hw1]
          exact ⟨(w, N, enc nw 8 B g), ⟨hv, hq, fun j hj => (enc_out n6 (by omega) hj).trans (hg0 j hj), fun z => by cases z⟩, rfl, rfl⟩
  | succ d ih =>
    intro sc q w V B N g hd hw hs hq hv hz hg0 hmy
    have s8 : sc < 8 := by omega
    have ey0 : Y_sh T n (d + 1) sc q V B = if 0 < sc ∧ q.1.1 = 0 then (true, q, V, B) else if (Y_shop1 T n sc q V B).1 = true then Y_sh T n d (sc + 1) (Y_shop1 T n sc q V B).2.1 (Y_shop1 T n sc q V B).2.2.1 (Y_shop1 T n sc q V B).2.2.2 else (false, (Y_shop1 T n sc q V B).2) := rfl
    rw [ey0]
    refine g_aload_n (pc := 42) d_MO_failsAtSetup_42 rfl 1 rfl ?_
    refine g_getR (pc := 43) (ci := 7) (f := 0) (b := st) rfl r_m_0 d_MO_failsAtSetup_43 fl_MO_7 (by decide) k_m ?_
    refine g_bipush (pc := 46) (v := 8) d_MO_failsAtSetup_46 (by decide) ?_
    refine g_lia1 (pc := 48) (j := 8) d_MO_failsAtSetup_48 k_st l_st (by decide) (by decide) nd ?_
    refine g_top (y := nI sc) (by rw [enc_c (by omega)]; exact hs) ?_
    refine g_if_eq (pc := 49) (tgt := 60) d_MO_failsAtSetup_49 (by decide) (fun c_49 => ?_) (fun c_49 => ?_)
    · skip
      have e0 : sc = 0 := (nI_eq (b := 0) (by omega) (by omega)).mp c_49
      have hk : ¬ (0 < sc ∧ q.1.1 = 0) := fun z => by omega
      refine g_aload_n (pc := 60) d_MO_failsAtSetup_60 rfl 1 rfl ?_
      refine g_cVx (pc := 61) (ci := 7) (As := []) d_MO_failsAtSetup_61 rfl mv_MO_failsAtShop st_MO_failsAtSetup_233 rfl rfl (by decide) rfl rfl (Nat.le_of_ble_eq_true rfl) k_m (ce_MO_failsAtShop (V := V) hM nd hn hc hT hq hv n6 hs s8 hz) (fun z hz9 => ?_)
      refine g_if_eq (pc := 64) (tgt := 42) d_MO_failsAtSetup_64 (by decide) (fun c_64 => ?_) (fun c_64 => ?_)
      · skip
        have y1 : (Y_shop1 T n sc q V B).1 = true := by have := bI_0.mp c_64; revert this; cases (Y_shop1 T n sc q V B).1 <;> decide
        rw [if_neg hk, if_pos y1]
        have e2 := Y_shop1_t y1
        have e3 := hz9.2.2.2 y1
        refine g_h (h' := wL h ((m, (rQ c0 cm (Y_shop1 T n sc q V B).2.1 z.1)) :: (st, (enc nw (sc + 1) (Y_shop1 T n sc q V B).2.2.2 (u1 g 12 (g 12 + (Y_shop1 T n sc q V B).2.2.2.2.2 sc 15)))) :: (mi, Ti) :: (nu, z.2.1) :: (co, K) :: (wd, wdR) :: R)) (by rw [e3]) ?_
        refine ih (sc + 1) _ z.1 _ _ z.2.1 _ (by omega) (by rw [e2, P_addS_7]; exact hw) (by rw [e2]; exact P_addS_8) hz9.2.1 hz9.1 (fun j h1 h2 => ?_) (fun j hj => ?_) ?_
        · rw [u1_ne (by omega)]
          exact hz j (by omega) h2
        · rw [u1_ne (by omega)]
          exact hg0 j hj
        · rw [u1_same, e2, P_addS_money, hmy]
      · skip
        have y1 : (Y_shop1 T n sc q V B).1 = false := by have := bI_n0 c_64; revert this; cases (Y_shop1 T n sc q V B).1 <;> decide
        refine g_iconst (pc := 67) (v := 1) d_MO_failsAtSetup_67 (by decide) ?_
        refine g_zret (pc := 68) d_MO_failsAtSetup_68 rfl (by first | rfl | exact nar_bI _) ?_
        rw [if_neg hk, if_neg (by rw [y1]; decide)]
        exact ⟨(z.1, z.2.1, z.2.2), ⟨hz9.1, hz9.2.1, fun j hj => (hz9.2.2.1 j hj).trans (hg0 j hj), fun z => by cases z⟩, rfl, rfl⟩
    · skip
      have e0 : 0 < sc := Nat.pos_of_ne_zero (fun z => c_49 (by rw [z]; rfl))
      refine g_aload_n (pc := 52) d_MO_failsAtSetup_52 rfl 1 rfl ?_
      refine g_cV1 (pc := 53) (ci := 7) (As := []) d_MO_failsAtSetup_53 rfl mv_MO_wordOf st_MO_failsAtSetup_211 rfl rfl (by decide) rfl rfl (Nat.le_of_ble_eq_true rfl) k_m (cm_MO_wordOf hM nd hn hc hT hq) ?_
      refine g_iconst (pc := 56) (v := 2) d_MO_failsAtSetup_56 (by decide) ?_
      refine g_icmp_ne (pc := 57) (tgt := 69) d_MO_failsAtSetup_57 (by decide) (fun c_57 => ?_) (fun c_57 => ?_)
      · skip
        have hw1 : ¬ Y_isw T q.1 3 = true := fun z => c_57 (by rw [(Z_word_iff (w0 := 2) (by omega)).mpr z]; rfl)
        refine g_aload_n (pc := 69) d_MO_failsAtSetup_69 rfl 1 rfl ?_
        refine g_lgI0 (pc := 70) (ci := 7) (f := 9) rfl d_MO_failsAtSetup_70 fl_MO_184 (by decide) k_m nd ?_
        refine g_top (y := nI q.1.1) rfl ?_
        refine g_if_eq (pc := 73) (tgt := 88) d_MO_failsAtSetup_73 (by decide) (fun c_73 => ?_) (fun c_73 => ?_)
        · skip
          have k0 : q.1.1 = 0 := (nI_eq (b := 0) (by have := hq.1.1; omega) (by omega)).mp c_73
          refine g_iconst (pc := 88) (v := 0) d_MO_failsAtSetup_88 (by decide) ?_
          refine g_zret (pc := 89) d_MO_failsAtSetup_89 rfl (by first | rfl | exact nar_bI _) ?_
          first
          | (rw [if_pos ⟨e0, k0⟩]; exact ⟨(w, N, enc nw sc B g), ⟨hv, hq, fun j hj => (enc_out n6 (by omega) hj).trans (hg0 j hj), fun _ => ⟨nw, sc, g, hw, n6, hs, by omega, rfl, hmy, hg0⟩⟩, rfl, rfl⟩)
          | (rw [if_neg (fun z => k0 z.2), Y_shop_f1 hw1]; exact ⟨(w, N, enc nw sc B g), ⟨hv, hq, fun j hj => (enc_out n6 (by omega) hj).trans (hg0 j hj), fun z => by cases z⟩, rfl, rfl⟩)
        · skip
          have k0 : ¬ q.1.1 = 0 := fun z => c_73 (by rw [z]; rfl)
          refine g_aload_n (pc := 76) d_MO_failsAtSetup_76 rfl 1 rfl ?_
          refine g_iconst (pc := 77) (v := 1) d_MO_failsAtSetup_77 (by decide) ?_
          refine g_cV1 (pc := 78) (ci := 7) (As := [.int _]) d_MO_failsAtSetup_78 rfl mv_MO_fails st_MO_failsAtSetup_202 rfl rfl (by decide) rfl rfl (Nat.le_of_ble_eq_true rfl) k_m (cm_MO_fails hM nd hn hc hT) ?_
          refine g_if_eq (pc := 81) (tgt := 88) d_MO_failsAtSetup_81 (by decide) (fun c_81 => ?_) (fun c_81 => ?_)
          · exact absurd c_81 (by decide)
          · skip
            refine g_iconst (pc := 84) (v := 1) d_MO_failsAtSetup_84 (by decide) ?_
            refine g_goto (pc := 85) (tgt := 89) d_MO_failsAtSetup_85 (by decide) ?_
            refine g_zret (pc := 89) d_MO_failsAtSetup_89 rfl (by first | rfl | exact nar_bI _) ?_
            first
            | (rw [if_pos ⟨e0, k0⟩]; exact ⟨(w, N, enc nw sc B g), ⟨hv, hq, fun j hj => (enc_out n6 (by omega) hj).trans (hg0 j hj), fun _ => ⟨nw, sc, g, hw, n6, hs, by omega, rfl, hmy, hg0⟩⟩, rfl, rfl⟩)
            | (rw [if_neg (fun z => k0 z.2), Y_shop_f1 hw1]; exact ⟨(w, N, enc nw sc B g), ⟨hv, hq, fun j hj => (enc_out n6 (by omega) hj).trans (hg0 j hj), fun z => by cases z⟩, rfl, rfl⟩)
      · skip
        have hw1 : Y_isw T q.1 3 = true := (Z_word_iff (w0 := 2) (by omega)).mp ((nI_eq (b := 2) (by have := Z_word_le (T := T) (t := q.1) 9 0 rfl; omega) (by omega)).mp c_57)
        have k1 : ¬ q.1.1 = 0 := by rw [Y_isw_k (w0 := 2) (by omega) hw1]; decide
        have hk : ¬ (0 < sc ∧ q.1.1 = 0) := fun z => k1 z.2
        refine g_aload_n (pc := 60) d_MO_failsAtSetup_60 rfl 1 rfl ?_
        refine g_cVx (pc := 61) (ci := 7) (As := []) d_MO_failsAtSetup_61 rfl mv_MO_failsAtShop st_MO_failsAtSetup_233 rfl rfl (by decide) rfl rfl (Nat.le_of_ble_eq_true rfl) k_m (ce_MO_failsAtShop (V := V) hM nd hn hc hT hq hv n6 hs s8 hz) (fun z hz9 => ?_)
        refine g_if_eq (pc := 64) (tgt := 42) d_MO_failsAtSetup_64 (by decide) (fun c_64 => ?_) (fun c_64 => ?_)
        · skip
          have y1 : (Y_shop1 T n sc q V B).1 = true := by have := bI_0.mp c_64; revert this; cases (Y_shop1 T n sc q V B).1 <;> decide
          rw [if_neg hk, if_pos y1]
          have e2 := Y_shop1_t y1
          have e3 := hz9.2.2.2 y1
          refine g_h (h' := wL h ((m, (rQ c0 cm (Y_shop1 T n sc q V B).2.1 z.1)) :: (st, (enc nw (sc + 1) (Y_shop1 T n sc q V B).2.2.2 (u1 g 12 (g 12 + (Y_shop1 T n sc q V B).2.2.2.2.2 sc 15)))) :: (mi, Ti) :: (nu, z.2.1) :: (co, K) :: (wd, wdR) :: R)) (by rw [e3]) ?_
          refine ih (sc + 1) _ z.1 _ _ z.2.1 _ (by omega) (by rw [e2, P_addS_7]; exact hw) (by rw [e2]; exact P_addS_8) hz9.2.1 hz9.1 (fun j h1 h2 => ?_) (fun j hj => ?_) ?_
          · rw [u1_ne (by omega)]
            exact hz j (by omega) h2
          · rw [u1_ne (by omega)]
            exact hg0 j hj
          · rw [u1_same, e2, P_addS_money, hmy]
        · skip
          have y1 : (Y_shop1 T n sc q V B).1 = false := by have := bI_n0 c_64; revert this; cases (Y_shop1 T n sc q V B).1 <;> decide
          refine g_iconst (pc := 67) (v := 1) d_MO_failsAtSetup_67 (by decide) ?_
          refine g_zret (pc := 68) d_MO_failsAtSetup_68 rfl (by first | rfl | exact nar_bI _) ?_
          rw [if_neg hk, if_neg (by rw [y1]; decide)]
          exact ⟨(z.1, z.2.1, z.2.2), ⟨hz9.1, hz9.2.1, fun j hj => (hz9.2.2.1 j hj).trans (hg0 j hj), fun z => by cases z⟩, rfl, rfl⟩
set_option maxRecDepth 20000 in
set_option maxHeartbeats 4000000 in
theorem ce_MO_failsAtSetup {E : En} {h : Hp} {m st mi nu co wd n : Nat} {c0 G0 T Ti N K : Nat → Int32} {R : List (Nat × (Nat → Int32))} {cm nx k at9 : Nat} {v e6 e7 : Int32} {q : Ps} {V : Nat → Int32} {B : Bu} (hM : MpOk h m st mi nu co wd) (nd : (m :: st :: mi :: nu :: co :: wd :: R.map Prod.fst).Nodup) (hn : n ≤ 500) (hc : c0 5 = nI n) (hT : ∀ j, j < n → Ti j = T j) : CT E m_MO_failsAtSetup [.ref m] (wL h ((m, (rM c0 cm nx k at9 v e6 e7)) :: (st, G0) :: (mi, Ti) :: (nu, N) :: (co, K) :: (wd, wdR) :: R)) 0 0 (fun v1 h9 => ∃ z : Int32 × (Nat → Int32) × (Nat → Int32), (VQ (Y_setup T n q V B).2.1 z.1 ∧ TW T n (Y_setup T n q V B).2.1.1 ∧ (∀ j, 140 ≤ j → z.2.2 j = G0 j) ∧ ((Y_setup T n q V B).1 = true → SetOk (Y_setup T n q V B).2.2.2 z.2.2 G0)) ∧ v1 = some (.int (bI (!(Y_setup T n q V B).1))) ∧ h9 = wL h ((m, (rQ c0 0 (Y_setup T n q V B).2.1 z.1)) :: (st, z.2.2) :: (mi, Ti) :: (nu, z.2.1) :: (co, K) :: (wd, wdR) :: R)) noX := by
  refine ct_of rfl (by decide +kernel) (Nat.le_of_ble_eq_true rfl) ?_
  show G E m_MO_failsAtSetup 0 [(0, .ref m)] [] (wL h ((m, (rM c0 cm nx k at9 v e6 e7)) :: (st, G0) :: (mi, Ti) :: (nu, N) :: (co, K) :: (wd, wdR) :: R)) 0 0 _ noX
  obtain ⟨k_m, r_m_0, k_st, l_st, r_m_4, k_mi, l_mi, r_m_12, k_nu, l_nu, r_m_13, k_co, l_co, r_m_18, k_wd, l_wd⟩ := id hM
  refine g_aload_n (pc := 0) d_MO_failsAtSetup_0 rfl 0 rfl ?_
  refine g_cV0 (pc := 1) (ci := 7) (As := []) d_MO_failsAtSetup_1 rfl mv_MO_beginText st_MO_failsAtSetup_224 rfl rfl (by decide) rfl rfl (Nat.le_of_ble_eq_true rfl) k_m (cm_MO_beginText hM nd hn hc hT) ?_
  refine g_iconst (pc := 4) (v := 0) d_MO_failsAtSetup_4 (by decide) ?_
  refine g_istore_n (pc := 5) (lv' := [(1, .int (nI 0)), (0, .ref m)]) d_MO_failsAtSetup_5 rfl (by decide) rfl ?_
  refine g_h (h' := wL h ((m, (rQ c0 0 (Y_start T n q) (Z_val T n 0 v))) :: (st, (Zr G0 0)) :: (mi, Ti) :: (nu, N) :: (co, K) :: (wd, wdR) :: R)) (by rw [Zr_0]; rfl) ?_
  refine lp_MO_zero hM nd hn hc hT ?_ 141 0 (by omega) (by omega)
  refine g_aload_n (pc := 26) d_MO_failsAtSetup_26 rfl 1 rfl ?_
  refine g_cVx (pc := 27) (ci := 7) (As := []) d_MO_failsAtSetup_27 rfl mv_MO_failsAtBureau st_MO_failsAtSetup_227 rfl rfl (by decide) rfl rfl (Nat.le_of_ble_eq_true rfl) k_m (ce_MO_failsAtBureau (q := Y_start T n q) (V := V) (B := B) hM nd hn hc hT (TW_tok (Nat.zero_le _)) VQ_tok (fun j hj => if_pos hj)) (fun y0 hy0 => ?_)
  refine g_if_ne (pc := 30) (tgt := 40) d_MO_failsAtSetup_30 (by decide) (fun c_30 => ?_) (fun c_30 => ?_)
  · skip
    have yb : (Y_bur T n (Y_start T n q) V B).1 = false := by have := bI_n0 c_30; revert this; cases (Y_bur T n (Y_start T n q) V B).1 <;> decide
    refine g_iconst (pc := 40) (v := 1) d_MO_failsAtSetup_40 (by decide) ?_
    refine g_zret (pc := 41) d_MO_failsAtSetup_41 rfl (by first | rfl | exact nar_bI _) ?_
    first
    | (rw [Y_setup_f1 yb]
       exact ⟨(y0.1, y0.2.1, y0.2.2), ⟨hy0.1, hy0.2.1, fun j hj => (hy0.2.2.1 j hj).trans (show Zr G0 140 j = G0 j from if_neg (by omega)), fun z => by cases z⟩, rfl, rfl⟩)
    | (rw [Y_setup_f2 yb yw]
       exact ⟨(y2.1, y2.2.1, y2.2.2), ⟨hy2.1, hy2.2.1, fun j hj => (hy2.2.2.1 j hj).trans (show Zr G0 140 j = G0 j from if_neg (by omega)), fun z => by cases z⟩, rfl, rfl⟩)
  · skip
    have yb : (Y_bur T n (Y_start T n q) V B).1 = true := by have : bI (!(Y_bur T n (Y_start T n q) V B).1) = 0 := c_30; have := bI_0.mp this; revert this; cases (Y_bur T n (Y_start T n q) V B).1 <;> decide
    obtain ⟨b7, b8⟩ := Y_bur_t yb
    have e3 := hy0.2.2.2 yb
    refine g_h (h' := wL h ((m, (rQ c0 0 (Y_bur T n (Y_start T n q) V B).2.1 y0.1)) :: (st, (enc 0 0 (Y_bur T n (Y_start T n q) V B).2.2.2 (Zr G0 140))) :: (mi, Ti) :: (nu, y0.2.1) :: (co, K) :: (wd, wdR) :: R)) (by rw [e3]) ?_
    refine g_aload_n (pc := 33) d_MO_failsAtSetup_33 rfl 1 rfl ?_
    refine g_cVx (pc := 34) (ci := 7) (As := []) d_MO_failsAtSetup_34 rfl mv_MO_failsAtWeights st_MO_failsAtSetup_230 rfl rfl (by decide) rfl rfl (Nat.le_of_ble_eq_true rfl) k_m (ce_MO_failsAtWeights (g := Zr G0 140) (B := (Y_bur T n (Y_start T n q) V B).2.2.2) hM nd hn hc hT hy0.2.1 hy0.1 b7) (fun y2 hy2 => ?_)
    refine g_if_eq (pc := 37) (tgt := 42) d_MO_failsAtSetup_37 (by decide) (fun c_37 => ?_) (fun c_37 => ?_)
    · skip
      have yw : (Y_weights T n (Y_bur T n (Y_start T n q) V B).2.1 (Y_bur T n (Y_start T n q) V B).2.2.2 0).1 = true := by have := bI_0.mp c_37; revert this; cases (Y_weights T n (Y_bur T n (Y_start T n q) V B).2.1 (Y_bur T n (Y_start T n q) V B).2.2.2 0).1 <;> decide
      have iv := Y_weights_inv (T := T) (n := n) (q := (Y_bur T n (Y_start T n q) V B).2.1) (B := (Y_bur T n (Y_start T n q) V B).2.2.2) (nw := 0) b7 (by omega)
      have e4 := hy2.2.2.2 yw
      refine g_h (h' := wL h ((m, (rQ c0 0 (Y_weights T n (Y_bur T n (Y_start T n q) V B).2.1 (Y_bur T n (Y_start T n q) V B).2.2.2 0).2.1 y2.1)) :: (st, (enc (Y_weights T n (Y_bur T n (Y_start T n q) V B).2.1 (Y_bur T n (Y_start T n q) V B).2.2.2 0).2.2.2 0 (Y_weights T n (Y_bur T n (Y_start T n q) V B).2.1 (Y_bur T n (Y_start T n q) V B).2.2.2 0).2.2.1 (Zr G0 140))) :: (mi, Ti) :: (nu, y2.2.1) :: (co, K) :: (wd, wdR) :: R)) (by rw [e4]) ?_
      rw [Y_setup_t yb yw]
      exact lp_MO_shops hM nd hn hc hT iv.2.1 8 0 _ y2.1 _ _ y2.2.1 _ rfl iv.1 ((iv.2.2.1 8 (by omega)).trans b8) hy2.2.1 hy2.1 (fun j h1 h2 => if_pos h2) (fun j hj => if_neg (by omega)) rfl
    · skip
      have yw : (Y_weights T n (Y_bur T n (Y_start T n q) V B).2.1 (Y_bur T n (Y_start T n q) V B).2.2.2 0).1 = false := by have := bI_n0 c_37; revert this; cases (Y_weights T n (Y_bur T n (Y_start T n q) V B).2.1 (Y_bur T n (Y_start T n q) V B).2.2.2 0).1 <;> decide
      refine g_iconst (pc := 40) (v := 1) d_MO_failsAtSetup_40 (by decide) ?_
      refine g_zret (pc := 41) d_MO_failsAtSetup_41 rfl (by first | rfl | exact nar_bI _) ?_
      first
      | (rw [Y_setup_f1 yb]
         exact ⟨(y0.1, y0.2.1, y0.2.2), ⟨hy0.1, hy0.2.1, fun j hj => (hy0.2.2.1 j hj).trans (show Zr G0 140 j = G0 j from if_neg (by omega)), fun z => by cases z⟩, rfl, rfl⟩)
      | (rw [Y_setup_f2 yb yw]
         exact ⟨(y2.1, y2.2.1, y2.2.2), ⟨hy2.1, hy2.2.1, fun j hj => (hy2.2.2.1 j hj).trans (show Zr G0 140 j = G0 j from if_neg (by omega)), fun z => by cases z⟩, rfl, rfl⟩)
theorem rM_ex (c : Nat → Int32) : ∃ cm nx k at9 v e6 e7, c = rM c cm nx k at9 v e6 e7 := by
  obtain ⟨cm, h1⟩ := nI_sur (c 14)
  obtain ⟨nx, h2⟩ := nI_sur (c 8)
  obtain ⟨k, h3⟩ := nI_sur (c 9)
  obtain ⟨a9, h4⟩ := nI_sur (c 10)
  refine ⟨cm, nx, k, a9, c 11, c 6, c 7, funext fun j => ?_⟩
  simp only [rM, u1_at]
  (repeat' split) <;> simp_all
set_option maxRecDepth 20000 in
set_option maxHeartbeats 4000000 in
theorem ce_MO_loadSetup {E : En} {h : Hp} {m st mi nu co wd n old kept : Nat} {c G0 T Ti N K : Nat → Int32} {R : List (Nat × (Nat → Int32))} {q : Ps} {V : Nat → Int32} {B : Bu} (hM : MpOk h m st mi nu co wd) (nd : (m :: st :: mi :: nu :: co :: wd :: R.map Prod.fst).Nodup) (hn : n ≤ 500) (hc : c 5 = nI n) (hT : ∀ j, j < n → Ti j = T j) (hk1 : c 1 = nI old) (hk2 : c 2 = nI kept) (ho8 : old < 8) (hk8 : kept ≤ 8) : CT E m_MO_loadSetup [.ref m] (wL h ((m, c) :: (st, G0) :: (mi, Ti) :: (nu, N) :: (co, K) :: (wd, wdR) :: R)) 0 0 (fun v1 h9 => ∃ z : Int32 × (Nat → Int32) × (Nat → Int32), ((∀ j, 140 ≤ j → z.2.2 j = KC G0 0 11 j) ∧ ((Y_setup T n q V B).1 = true → SetOk (Y_setup T n q V B).2.2.2 z.2.2 (KC G0 0 11))) ∧ v1 = some (.int (if (Y_setup T n q V B).1 = true then z.2.2 8 else 0)) ∧ h9 = wL h ((m, (if (Y_setup T n q V B).1 = true then kpC (u1 (rQ (u1 c 17 0) 0 (Y_setup T n q V B).2.1 z.1) 5 0) old kept else u1 (u1 (rQ (u1 c 17 0) 0 (Y_setup T n q V B).2.1 z.1) 5 0) 17 1)) :: (st, (if (Y_setup T n q V B).1 = true then KC z.2.2 11 (1 + (old + kept) % 8) else KC z.2.2 11 0)) :: (mi, Ti) :: (nu, z.2.1) :: (co, K) :: (wd, wdR) :: R)) noX := by
  refine ct_of rfl (by decide +kernel) (Nat.le_of_ble_eq_true rfl) ?_
  show G E m_MO_loadSetup 0 [(0, .ref m)] [] (wL h ((m, c) :: (st, G0) :: (mi, Ti) :: (nu, N) :: (co, K) :: (wd, wdR) :: R)) 0 0 _ noX
  obtain ⟨k_m, r_m_0, k_st, l_st, r_m_4, k_mi, l_mi, r_m_12, k_nu, l_nu, r_m_13, k_co, l_co, r_m_18, k_wd, l_wd⟩ := id hM
  refine g_aload_n (pc := 0) d_MO_loadSetup_0 rfl 0 rfl ?_
  refine g_iconst (pc := 1) (v := 0) d_MO_loadSetup_1 (by decide) ?_
  refine g_lpI0 (pc := 2) (ci := 7) (f := 17) rfl d_MO_loadSetup_2 fl_MO_52 (fun q hq => by cases hq; exact rfl) rfl rfl (by decide) k_m nd ?_
  refine g_aload_n (pc := 5) d_MO_loadSetup_5 rfl 0 rfl ?_
  refine g_iconst (pc := 6) (v := 0) d_MO_loadSetup_6 (by decide) ?_
  refine g_bipush (pc := 7) (v := 11) d_MO_loadSetup_7 (by decide) ?_
  refine g_cV0 (pc := 9) (ci := 7) (As := [.int _, .int _]) d_MO_loadSetup_9 rfl mv_MO_copyBlock st_MO_loadSetup_61 rfl rfl (by decide) rfl rfl (Nat.le_of_ble_eq_true rfl) k_m (cr_MO_copyBlock (f := 0) (t := 11) hM.mo nd (by omega) (by omega) (by omega)) ?_
  obtain ⟨cm, nx, k, at9, v, e6, e7, er⟩ := rM_ex (u1 c 17 0)
  refine g_h (h' := wL h ((m, (rM (u1 c 17 0) cm nx k at9 v e6 e7)) :: (st, (KC G0 0 11)) :: (mi, Ti) :: (nu, N) :: (co, K) :: (wd, wdR) :: R)) (by rw [← er]) ?_
  refine g_aload_n (pc := 12) d_MO_loadSetup_12 rfl 0 rfl ?_
  refine g_cVx (pc := 13) (ci := 7) (As := []) d_MO_loadSetup_13 rfl mv_MO_failsAtSetup st_MO_loadSetup_236 rfl rfl (by decide) rfl rfl (Nat.le_of_ble_eq_true rfl) k_m (ce_MO_failsAtSetup (q := q) (V := V) (B := B) hM nd hn (by rw [u1_ne (by omega)]; exact hc) hT) (fun y0 hy0 => ?_)
  refine g_nameI (fun x_1 hx_1 => ?_)
  refine g_istore_n (pc := 16) (lv' := [(1, .int x_1), (0, .ref m)]) d_MO_loadSetup_16 rfl (by decide) rfl ?_
  refine g_aload_n (pc := 17) d_MO_loadSetup_17 rfl 1 rfl ?_
  refine g_iconst (pc := 18) (v := 0) d_MO_loadSetup_18 (by decide) ?_
  refine g_lpI0 (pc := 19) (ci := 7) (f := 5) rfl d_MO_loadSetup_19 fl_MO_151 (fun q hq => by cases hq; exact rfl) rfl rfl (by decide) k_m nd ?_
  refine g_iload_n (pc := 22) d_MO_loadSetup_22 rfl 0 rfl ?_
  refine g_if_eq (pc := 23) (tgt := 33) d_MO_loadSetup_23 (by decide) (fun c_23 => ?_) (fun c_23 => ?_)
  · skip
    have y1 : (Y_setup T n q V B).1 = true := by rw [hx_1] at c_23; have := bI_0.mp c_23; revert this; cases (Y_setup T n q V B).1 <;> decide
    subst c_23
    refine g_aload_n (pc := 33) d_MO_loadSetup_33 rfl 1 rfl ?_
    refine g_iload_n (pc := 34) d_MO_loadSetup_34 rfl 0 rfl ?_
    refine g_iconst (pc := 35) (v := 1) d_MO_loadSetup_35 (by decide) ?_
    refine g_cV1 (pc := 36) (ci := 7) (As := [.int _, .int _]) d_MO_loadSetup_36 rfl mv_MO_throwsIf st_MO_loadSetup_154 rfl rfl (by decide) rfl rfl (Nat.le_of_ble_eq_true rfl) k_m (cm_MO_throwsIf_f k_m nd) ?_
    refine g_if_eq (pc := 39) (tgt := 44) d_MO_loadSetup_39 (by decide) (fun c_39 => ?_) (fun c_39 => ?_)
    · skip
      refine g_aload_n (pc := 44) d_MO_loadSetup_44 rfl 1 rfl ?_
      refine g_bipush (pc := 45) (v := 11) d_MO_loadSetup_45 (by decide) ?_
      refine g_cV0 (pc := 47) (ci := 7) (As := [.int _]) d_MO_loadSetup_47 rfl mv_MO_keep st_MO_loadSetup_239 rfl rfl (by decide) rfl rfl (Nat.le_of_ble_eq_true rfl) k_m (cr_MO_keep (b := 11) (c := (u1 (rQ (u1 c 17 0) 0 (Y_setup T n q V B).2.1 y0.1) 5 0)) hM.mo nd hk1 hk2 ho8 hk8 (Or.inr rfl)) ?_
      refine g_aload_n (pc := 50) d_MO_loadSetup_50 rfl 1 rfl ?_
      refine g_getR (pc := 51) (ci := 7) (f := 0) (b := st) rfl r_m_0 d_MO_loadSetup_51 fl_MO_7 (by decide) k_m ?_
      refine g_bipush (pc := 54) (v := 8) d_MO_loadSetup_54 (by decide) ?_
      refine g_lia1 (pc := 56) (j := 8) d_MO_loadSetup_56 k_st l_st (by first | assumption | omega | decide) (by decide) nd ?_
      refine g_top (y := y0.2.2 8) (by unfold KC; rw [if_neg (by omega)]) ?_
      refine g_iret (pc := 57) d_MO_loadSetup_57 rfl ?_
      exact ⟨(y0.1, y0.2.1, y0.2.2), ⟨hy0.2.2.1, fun _ => hy0.2.2.2 y1⟩, by rw [y1]; rfl, by rw [y1]; rfl⟩
    · exact (c_39 (by decide)).elim
  · skip
    have y1 : (Y_setup T n q V B).1 = false := by rw [hx_1] at c_23; have := bI_n0 c_23; revert this; cases (Y_setup T n q V B).1 <;> decide
    have e1 : x_1 = 1 := by rw [hx_1, y1]; rfl
    subst e1
    refine g_aload_n (pc := 26) d_MO_loadSetup_26 rfl 1 rfl ?_
    refine g_bipush (pc := 27) (v := 11) d_MO_loadSetup_27 (by decide) ?_
    refine g_iconst (pc := 29) (v := 0) d_MO_loadSetup_29 (by decide) ?_
    refine g_cV0 (pc := 30) (ci := 7) (As := [.int _, .int _]) d_MO_loadSetup_30 rfl mv_MO_copyBlock st_MO_loadSetup_61 rfl rfl (by decide) rfl rfl (Nat.le_of_ble_eq_true rfl) k_m (cr_MO_copyBlock (f := 11) (t := 0) hM.mo nd (by omega) (by omega) (by omega)) ?_
    refine g_aload_n (pc := 33) d_MO_loadSetup_33 rfl 1 rfl ?_
    refine g_iload_n (pc := 34) d_MO_loadSetup_34 rfl 0 rfl ?_
    refine g_iconst (pc := 35) (v := 1) d_MO_loadSetup_35 (by decide) ?_
    refine g_cV1 (pc := 36) (ci := 7) (As := [.int _, .int _]) d_MO_loadSetup_36 rfl mv_MO_throwsIf st_MO_loadSetup_154 rfl rfl (by decide) rfl rfl (Nat.le_of_ble_eq_true rfl) k_m (cm_MO_throwsIf_t k_m nd) ?_
    refine g_if_eq (pc := 39) (tgt := 44) d_MO_loadSetup_39 (by decide) (fun c_39 => ?_) (fun c_39 => ?_)
    · exact absurd c_39 (by decide)
    · skip
      refine g_iconst (pc := 42) (v := 0) d_MO_loadSetup_42 (by decide) ?_
      refine g_iret (pc := 43) d_MO_loadSetup_43 rfl ?_
      exact ⟨(y0.1, y0.2.1, y0.2.2), ⟨hy0.2.2.1, fun z => absurd z (by rw [y1]; decide)⟩, by rw [y1]; rfl, by rw [y1]; rfl⟩
