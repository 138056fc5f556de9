def ScOk (h : Hp) (sc vb sb nb : Nat) : Prop := hK h sc = 4 ∧ hR h sc 0 = some vb ∧ hR h sc 1 = some sb ∧ hR h sc 2 = some nb ∧ hK h vb = 20 ∧ hL h vb = 20 ∧ hK h sb = 20 ∧ hL h sb = 20 ∧ hK h nb = 20 ∧ hL h nb = 20
theorem TkO_next {T : Nat → Int32} {n : Nat} {q : Ps} (h : TkO n q.1) : TkO n (Y_next T n q).1 := TkO_nx h
theorem TkO_start {T : Nat → Int32} {n : Nat} {q : Ps} : TkO n (Y_start T n q).1 := TkO_tok (Nat.zero_le n)
/-! setups -/
def Y_weight (T : Nat → Int32) (n : Nat) (q : Ps) (B : Bu) (nw : Nat) : Bool × Ps × Bu × Nat :=
  if (Y_in 1 5000 q).1 = true then
    (if P_has B.2.1 q.1.2.2.2 nw = true then (false, Y_fail 3 q, B, nw)
     else if nw < 6 then (true, Y_next T n q, P_addW B nw q.1.2.2.2, nw + 1) else (false, Y_fail 4 q, B, nw))
  else (false, (Y_in 1 5000 q).2, B, nw)
def Y_wl (T : Nat → Int32) (n : Nat) : Nat → Ps → Bu → Nat → Bool × Ps × Bu × Nat
  | 0, q, B, nw => ((Y_semi T n q).1, (Y_semi T n q).2, B, nw)
  | d + 1, q, B, nw => if q.1.1 = 2 then (if (Y_weight T n q B nw).1 = true then Y_wl T n d (Y_weight T n q B nw).2.1 (Y_weight T n q B nw).2.2.1 (Y_weight T n q B nw).2.2.2 else (false, (Y_weight T n q B nw).2)) else ((Y_semi T n q).1, (Y_semi T n q).2, B, nw)
def Y_weights (T : Nat → Int32) (n : Nat) (q : Ps) (B : Bu) (nw : Nat) : Bool × Ps × Bu × Nat :=
  if (Y_word T n 2 q).1 = true then
    (if (Y_weight T n (Y_word T n 2 q).2 B nw).1 = true then Y_wl T n 6 (Y_weight T n (Y_word T n 2 q).2 B nw).2.1 (Y_weight T n (Y_word T n 2 q).2 B nw).2.2.1 (Y_weight T n (Y_word T n 2 q).2 B nw).2.2.2 else (false, (Y_weight T n (Y_word T n 2 q).2 B nw).2))
  else (false, (Y_word T n 2 q).2, B, nw)
theorem cb_beginV {E : En} {h : Hp} {b r : Nat} {B : Bu} {V : Nat → Int32} (hB : BuOk h b) (hr : hK h r = 20) (hl : hL h r = 8) (hf : Fo h b r) (hv : hI h r = V) : CR E m_BU_begin [.ref b, .ref r] (wB h b B) none (wB h b (M_beginB B.1 V, B.2)) := hv ▸ cb_begin hB hr hl hf
theorem cb_addShopV {E : En} {h : Hp} {b sc r : Nat} {B : Bu} {V : Nat → Int32} (hB : BuOk h b) (hs : B.1 8 = nI sc) (hn : sc < 8) (hr : hK h r = 20) (hl : hL h r = 8) (hf : Fo h b r) (hv : hI h r = V) : CR E m_BU_addShop [.ref b, .ref r] (wB h b B) none (wB h b (P_addS B sc V)) := hv ▸ cb_addShop hB hs hn hr hl hf
def RB : List Int32 := [0, 50, 0, 50, 0, 99, 1, 99, 1, 50, 0, 3, 0, 65536]
def RS : List Int32 := [0, 9999, 0, 1000, 0, 100, 0, 10, 1, 5000, 0, 50, 0, 100, 0, 30]
abbrev Bp : Type := Bool × Ps × (Nat → Int32) × Bu
def Y_bur (T : Nat → Int32) (n : Nat) (q : Ps) (V : Nat → Int32) (B : Bu) : Bp :=
  let a := Y_word T n 1 q
  let r := Y_row T n RB 7 0 a.2 V
  let s := Y_semi T n r.2.1
  if a.1 = true then (if r.1 = true then (if s.1 = true then (true, s.2, r.2.2, M_beginB B.1 r.2.2, B.2) else (false, s.2, r.2.2, B)) else (false, r.2.1, r.2.2, B)) else (false, a.2, V, B)
def Y_shop1 (T : Nat → Int32) (n i : Nat) (q : Ps) (V : Nat → Int32) (B : Bu) : Bp :=
  let a := Y_word T n 3 q
  let r := Y_row T n RS 8 0 a.2 V
  let s := Y_semi T n r.2.1
  if a.1 = true then (if r.1 = true then (if s.1 = true then (true, s.2, r.2.2, P_addS B i r.2.2) else (false, s.2, r.2.2, B)) else (false, r.2.1, r.2.2, B)) else (false, a.2, V, B)
def Y_sh (T : Nat → Int32) (n : Nat) : Nat → Nat → Ps → (Nat → Int32) → Bu → Bp
  | 0, _, q, V, B => if q.1.1 = 0 then (true, q, V, B) else (false, Y_fail (if Y_isw T q.1 3 = true then 4 else 1) q, V, B)
  | d + 1, i, q, V, B => if 0 < i ∧ q.1.1 = 0 then (true, q, V, B) else if (Y_shop1 T n i q V B).1 = true then Y_sh T n d (i + 1) (Y_shop1 T n i q V B).2.1 (Y_shop1 T n i q V B).2.2.1 (Y_shop1 T n i q V B).2.2.2 else (false, (Y_shop1 T n i q V B).2)
theorem TkO_in {n : Nat} {lo hi : Int32} {q : Ps} (h : TkO n q.1) : TkO n (Y_in lo hi q).2.1 := by rw [Y_in_1]; exact h
theorem TkO_weight {T : Nat → Int32} {n nw : Nat} {q : Ps} {B : Bu} (h : TkO n q.1) : TkO n (Y_weight T n q B nw).2.1.1 := by
  unfold Y_weight
  split
  · split
    · exact h
    · split
      · exact TkO_next h
      · exact h
  · exact TkO_in h
theorem Y_weight_inv {T : Nat → Int32} {n nw : Nat} {q : Ps} {B : Bu} (hw : B.1 7 = nI nw) (hn : nw ≤ 6) : (Y_weight T n q B nw).2.2.1.1 7 = nI (Y_weight T n q B nw).2.2.2 ∧ (Y_weight T n q B nw).2.2.2 ≤ 6 ∧ (∀ k, k ≠ 7 → (Y_weight T n q B nw).2.2.1.1 k = B.1 k) ∧ (Y_weight T n q B nw).2.2.1.2.2 = B.2.2 := by
  unfold Y_weight
  split
  · split
    · exact ⟨hw, hn, fun _ _ => rfl, rfl⟩
    · split
      · next h1 => exact ⟨rfl, h1, fun k hk => u1_ne hk, rfl⟩
      · exact ⟨hw, hn, fun _ _ => rfl, rfl⟩
  · exact ⟨hw, hn, fun _ _ => rfl, rfl⟩
theorem TkO_bur {T : Nat → Int32} {n : Nat} {q : Ps} {V : Nat → Int32} {B : Bu} (h : TkO n q.1) : TkO n (Y_bur T n q V B).2.1.1 := by
  unfold Y_bur
  dsimp only
  split
  · split
    · split
      · exact TkO_semi (TkO_row (TkO_word h))
      · exact TkO_semi (TkO_row (TkO_word h))
    · exact TkO_row (TkO_word h)
  · exact TkO_word h
set_option maxRecDepth 20000 in
theorem cx_PA_takeWeight {E : En} {h : Hp} {ip bt pa rw sc n : Nat} {F0 T P0 V : Nat → Int32} {q : Ps} {R : List (Nat × (Nat → Int32))} {b nw : Nat} {B : Bu} (hI : InOk h ip bt) (hP : PaOk h pa ip rw sc) (nd : (ip :: bt :: pa :: rw :: R.map Prod.fst).Nodup) (hn : n ≤ 500) (hq : TkO n q.1) (hB : BuOk h b) (fo : ∀ a, a ∈ ip :: bt :: pa :: rw :: R.map Prod.fst → Fo h b a) (hw : B.1 7 = nI nw) (hnw : nw ≤ 6) : CR E m_PA_takeWeight [.ref pa, .ref b] (wL (wB h b B) ((ip, rF F0 n q.1) :: (bt, T) :: (pa, rP P0 q.2) :: (rw, V) :: R)) (some (.int (bI (Y_weight T n q B nw).1))) (wL (wB h b (Y_weight T n q B nw).2.2.1) ((ip, rF F0 n (Y_weight T n q B nw).2.1.1) :: (bt, T) :: (pa, rP P0 (Y_weight T n q B nw).2.1.2) :: (rw, V) :: R)) := by
  refine ct_of rfl (by decide +kernel) (Nat.le_of_ble_eq_true rfl) ?_
  show G E m_PA_takeWeight 0 [(0, .ref pa), (1, .ref b)] [] (wL (wB h b B) ((ip, rF F0 n q.1) :: (bt, T) :: (pa, rP P0 q.2) :: (rw, V) :: R)) 0 0 _ noX
  obtain ⟨k_ip, r_ip_0, k_bt, l_bt⟩ := id hI
  obtain ⟨k_pa, r_pa_0, r_pa_1, r_pa_2, k_rw, l_rw⟩ := id hP
  refine g_aload_n (pc := 0) d_PA_takeWeight_0 rfl 0 rfl ?_
  refine g_iconst (pc := 1) (v := 1) d_PA_takeWeight_1 (by decide) ?_
  refine g_sipush (pc := 2) (v := 5000) d_PA_takeWeight_2 (by decide) ?_
  refine g_cV1 (pc := 5) (ci := 1) (As := [.int _, .int _]) d_PA_takeWeight_5 rfl mv_PA_isNumberWithin st_PA_takeWeight_112 rfl rfl (by decide) rfl rfl (Nat.le_of_ble_eq_true rfl) k_pa (cx_PA_isNumberWithin hI hP nd hn hq) ?_
  refine g_if_ne (pc := 8) (tgt := 13) d_PA_takeWeight_8 (by decide) (fun c_8 => ?_) (fun c_8 => ?_)
  · skip
    have w1 := bI_n0 c_8
    rw [Y_in_t w1]
    refine g_aload_n (pc := 13) d_PA_takeWeight_13 rfl 1 rfl ?_
    refine g_aload_n (pc := 14) d_PA_takeWeight_14 rfl 0 rfl ?_
    refine g_getR (pc := 15) (ci := 1) (f := 0) (b := ip) rfl r_pa_0 d_PA_takeWeight_15 fl_PA_12 (by decide) k_pa ?_
    refine g_lgI0 (pc := 18) (ci := 2) (f := 5) rfl d_PA_takeWeight_18 fl_PA_116 (by decide) k_ip nd ?_
    refine g_top rF_5 ?_
    refine g_h (wB_wL (by exact fo)).symm ?_
    refine g_cV1 (pc := 21) (ci := 4) (As := [.int _]) d_PA_takeWeight_21 rfl mv_BU_hasWeight st_PA_takeWeight_119 rfl rfl (by decide) rfl rfl (Nat.le_of_ble_eq_true rfl) hB.1 (cb_hasWeight hB hw hnw) ?_
    refine g_h (wB_wL (by exact fo)) ?_
    refine g_if_eq (pc := 24) (tgt := 33) d_PA_takeWeight_24 (by decide) (fun c_24 => ?_) (fun c_24 => ?_)
    · skip
      have w3 : ¬ P_has B.2.1 q.1.2.2.2 nw = true := by rw [bI_0.mp c_24]; decide
      refine g_aload_n (pc := 33) d_PA_takeWeight_33 rfl 1 rfl ?_
      refine g_h (wB_wL (by exact fo)).symm ?_
      refine g_bgI (pc := 34) (f := 7) rfl d_PA_takeWeight_34 fl_PA_122 hB ?_
      refine g_h (wB_wL (by exact fo)) ?_
      refine g_top hw ?_
      refine g_bipush (pc := 37) (v := 6) d_PA_takeWeight_37 (by decide) ?_
      refine g_icmp_lt (pc := 39) (tgt := 48) d_PA_takeWeight_39 (by decide) (fun c_39 => ?_) (fun c_39 => ?_)
      · skip
        have w5 : nw < 6 := Nat.lt_of_not_le (fun z => (Int32.not_le.mpr c_39) ((nI_leI (a := 6) (b := nw) (by omega) (by omega)).mpr z))
        refine g_aload_n (pc := 48) d_PA_takeWeight_48 rfl 1 rfl ?_
        refine g_aload_n (pc := 49) d_PA_takeWeight_49 rfl 0 rfl ?_
        refine g_getR (pc := 50) (ci := 1) (f := 0) (b := ip) rfl r_pa_0 d_PA_takeWeight_50 fl_PA_12 (by decide) k_pa ?_
        refine g_lgI0 (pc := 53) (ci := 2) (f := 5) rfl d_PA_takeWeight_53 fl_PA_116 (by decide) k_ip nd ?_
        refine g_top rF_5 ?_
        refine g_h (wB_wL (by exact fo)).symm ?_
        refine g_cV0 (pc := 56) (ci := 4) (As := [.int _]) d_PA_takeWeight_56 rfl mv_BU_addWeight st_PA_takeWeight_125 rfl rfl (by decide) rfl rfl (Nat.le_of_ble_eq_true rfl) hB.1 (cb_addWeight hB hw w5) ?_
        refine g_h (wB_wL (by exact fo)) ?_
        refine g_aload_n (pc := 59) d_PA_takeWeight_59 rfl 0 rfl ?_
        refine g_getR (pc := 60) (ci := 1) (f := 0) (b := ip) rfl r_pa_0 d_PA_takeWeight_60 fl_PA_12 (by decide) k_pa ?_
        refine g_cV0 (pc := 63) (ci := 2) (As := []) d_PA_takeWeight_63 rfl mv_IN_readNext st_PA_takeWeight_129 rfl rfl (by decide) rfl rfl (Nat.le_of_ble_eq_true rfl) k_ip (cy_IN_readNext hI nd hn hq) ?_
        refine g_iconst (pc := 66) (v := 1) d_PA_takeWeight_66 (by decide) ?_
        refine g_zret (pc := 67) d_PA_takeWeight_67 rfl (by first | rfl | exact nar_bI _) ?_
        unfold Y_weight
        rw [if_pos w1, if_neg w3, if_pos w5]
        exact ⟨rfl, rfl⟩
      · skip
        have w5 : ¬ nw < 6 := fun z => c_39 (nI_lt (a := nw) (b := 6) z (by omega))
        refine g_aload_n (pc := 42) d_PA_takeWeight_42 rfl 0 rfl ?_
        refine g_iconst (pc := 43) (v := 4) d_PA_takeWeight_43 (by decide) ?_
        refine g_cV1 (pc := 44) (ci := 1) (As := [.int _]) d_PA_takeWeight_44 rfl mv_PA_fail st_PA_takeWeight_72 rfl rfl (by decide) rfl rfl (Nat.le_of_ble_eq_true rfl) k_pa (cx_PA_fail hI hP nd hn hq) ?_
        refine g_zret (pc := 47) d_PA_takeWeight_47 rfl (by first | rfl | exact nar_bI _) ?_
        unfold Y_weight
        rw [if_pos w1, if_neg w3, if_neg w5]
        exact ⟨rfl, rfl⟩
    · skip
      have w3 := bI_n0 c_24
      refine g_aload_n (pc := 27) d_PA_takeWeight_27 rfl 0 rfl ?_
      refine g_iconst (pc := 28) (v := 3) d_PA_takeWeight_28 (by decide) ?_
      refine g_cV1 (pc := 29) (ci := 1) (As := [.int _]) d_PA_takeWeight_29 rfl mv_PA_fail st_PA_takeWeight_72 rfl rfl (by decide) rfl rfl (Nat.le_of_ble_eq_true rfl) k_pa (cx_PA_fail hI hP nd hn hq) ?_
      refine g_zret (pc := 32) d_PA_takeWeight_32 rfl (by first | rfl | exact nar_bI _) ?_
      unfold Y_weight
      rw [if_pos w1, if_pos w3]
      exact ⟨rfl, rfl⟩
  · skip
    have w2 : ¬ (Y_in 1 5000 q).1 = true := by rw [bI_0.mp c_8]; decide
    refine g_iconst (pc := 11) (v := 0) d_PA_takeWeight_11 (by decide) ?_
    refine g_zret (pc := 12) d_PA_takeWeight_12 rfl (by first | rfl | exact nar_bI _) ?_
    unfold Y_weight
    rw [if_neg w2]
    exact ⟨rfl, rfl⟩
theorem lp_PA_readWeights {E : En} {h : Hp} {ip bt pa rw sc n : Nat} {F0 T P0 V : Nat → Int32} {R : List (Nat × (Nat → Int32))} {b : Nat} (hI : InOk h ip bt) (hP : PaOk h pa ip rw sc) (nd : (ip :: bt :: pa :: rw :: R.map Prod.fst).Nodup) (hn : n ≤ 500) (hB : BuOk h b) (fo : ∀ a, a ∈ ip :: bt :: pa :: rw :: R.map Prod.fst → Fo h b a) : ∀ (d i : Nat) (q : Ps) (B : Bu) (nw : Nat), i ≤ 6 → TkO n q.1 → B.1 7 = nI nw → nw ≤ 6 → 6 - i < d → G E m_PA_readWeights 21 [(2, .int (nI i)), (0, .ref pa), (1, .ref b)] [] (wL (wB h b B) ((ip, rF F0 n q.1) :: (bt, T) :: (pa, rP P0 q.2) :: (rw, V) :: R)) 0 0 (fun v1 h1 => v1 = some (.int (bI (Y_wl T n (6 - i) q B nw).1)) ∧ h1 = wL (wB h b (Y_wl T n (6 - i) q B nw).2.2.1) ((ip, rF F0 n (Y_wl T n (6 - i) q B nw).2.1.1) :: (bt, T) :: (pa, rP P0 (Y_wl T n (6 - i) q B nw).2.1.2) :: (rw, V) :: R)) noX := by
  obtain ⟨k_ip, r_ip_0, k_bt, l_bt⟩ := id hI
  obtain ⟨k_pa, r_pa_0, r_pa_1, r_pa_2, k_rw, l_rw⟩ := id hP
  intro d
  induction d with
  | zero => intros; omega
  | succ d ih =>
    intro i q B nw hi hq hw hnw hd
    refine g_iload_n (pc := 21) d_PA_readWeights_21 rfl 0 rfl ?_
    refine g_bipush (pc := 22) (v := 6) d_PA_readWeights_22 (by decide) ?_
    refine g_icmp_ge (pc := 24) (tgt := 54) d_PA_readWeights_24 (by decide) (fun c_24 => ?_) (fun c_24 => ?_)
    · skip
      have e9 : 6 - i = 0 := by have := (nI_leI (a := 6) (b := i) (by omega) (by omega)).mp c_24; omega
      refine g_aload_n (pc := 54) d_PA_readWeights_54 rfl 1 rfl ?_
      refine g_cV1 (pc := 55) (ci := 1) (As := []) d_PA_readWeights_55 rfl mv_PA_takeSemicolon st_PA_readWeights_99 rfl rfl (by decide) rfl rfl (Nat.le_of_ble_eq_true rfl) k_pa (cx_PA_takeSemicolon hI hP nd hn hq) ?_
      refine g_zret (pc := 58) d_PA_readWeights_58 rfl (by first | rfl | exact nar_bI _) ?_
      first | (rw [e9, Y_wl]; exact ⟨rfl, rfl⟩) | (rw [show 6 - i = (6 - (i + 1)) + 1 by omega, Y_wl, if_neg k2]; exact ⟨rfl, rfl⟩)
    · skip
      have e9 : i < 6 := Nat.lt_of_not_le (fun z => c_24 ((nI_leI (a := 6) (b := i) (by omega) (by omega)).mpr z))
      refine g_aload_n (pc := 27) d_PA_readWeights_27 rfl 1 rfl ?_
      refine g_getR (pc := 28) (ci := 1) (f := 0) (b := ip) rfl r_pa_0 d_PA_readWeights_28 fl_PA_12 (by decide) k_pa ?_
      refine g_lgI0 (pc := 31) (ci := 2) (f := 2) rfl d_PA_readWeights_31 fl_PA_61 (by decide) k_ip nd ?_
      refine g_top rF_2 ?_
      refine g_iconst (pc := 34) (v := 2) d_PA_readWeights_34 (by decide) ?_
      refine g_icmp_ne (pc := 35) (tgt := 54) d_PA_readWeights_35 (by decide) (fun c_35 => ?_) (fun c_35 => ?_)
      · skip
        have k2 : ¬ q.1.1 = 2 := fun z => c_35 (by rw [z]; rfl)
        refine g_aload_n (pc := 54) d_PA_readWeights_54 rfl 1 rfl ?_
        refine g_cV1 (pc := 55) (ci := 1) (As := []) d_PA_readWeights_55 rfl mv_PA_takeSemicolon st_PA_readWeights_99 rfl rfl (by decide) rfl rfl (Nat.le_of_ble_eq_true rfl) k_pa (cx_PA_takeSemicolon hI hP nd hn hq) ?_
        refine g_zret (pc := 58) d_PA_readWeights_58 rfl (by first | rfl | exact nar_bI _) ?_
        first | (rw [e9, Y_wl]; exact ⟨rfl, rfl⟩) | (rw [show 6 - i = (6 - (i + 1)) + 1 by omega, Y_wl, if_neg k2]; exact ⟨rfl, rfl⟩)
      · skip
        have k2 : q.1.1 = 2 := nI_inj (by have := hq.1; omega) (by decide) c_35
        refine g_aload_n (pc := 38) d_PA_readWeights_38 rfl 1 rfl ?_
        refine g_aload_n (pc := 39) d_PA_readWeights_39 rfl 2 rfl ?_
        refine g_cV1 (pc := 40) (ci := 1) (As := [.ref _]) d_PA_readWeights_40 rfl mv_PA_takeWeight st_PA_readWeights_109 rfl rfl (by decide) rfl rfl (Nat.le_of_ble_eq_true rfl) k_pa (cx_PA_takeWeight hI hP nd hn hq hB fo hw hnw) ?_
        refine g_if_ne (pc := 43) (tgt := 48) d_PA_readWeights_43 (by decide) (fun c_43 => ?_) (fun c_43 => ?_)
        · skip
          have w1 := bI_n0 c_43
          obtain ⟨x_1, hx_1⟩ : ∃ y : Int32, y = (nI i) + 1 := ⟨_, rfl⟩
          refine g_iinc (pc := 48) (w := 0) (v := x_1) (lv' := [(2, .int x_1), (0, .ref pa), (1, .ref b)]) d_PA_readWeights_48 rfl (by rw [hx_1]; rfl) (by decide) rfl ?_
          refine g_goto (pc := 51) (tgt := 21) d_PA_readWeights_51 (by decide) ?_
          have e8 : x_1 = nI (i + 1) := by rw [hx_1]; exact nI_1 _
          clear hx_1
          subst e8
          refine g_perm [0, 1, 2] rfl ?_
          rw [show 6 - i = (6 - (i + 1)) + 1 by omega, Y_wl, if_pos k2, if_pos w1]
          have iv := Y_weight_inv (T := T) (n := n) (q := q) hw hnw
          exact ih (i + 1) _ _ _ (by omega) (TkO_weight hq) iv.1 iv.2.1 (by omega)
        · skip
          have w2 : ¬ (Y_weight T n q B nw).1 = true := by rw [bI_0.mp c_43]; decide
          refine g_iconst (pc := 46) (v := 0) d_PA_readWeights_46 (by decide) ?_
          refine g_zret (pc := 47) d_PA_readWeights_47 rfl (by first | rfl | exact nar_bI _) ?_
          rw [show 6 - i = (6 - (i + 1)) + 1 by omega, Y_wl, if_pos k2, if_neg w2]
          exact ⟨rfl, rfl⟩
set_option maxRecDepth 20000 in
theorem cx_PA_readWeights {E : En} {h : Hp} {ip bt pa rw sc n : Nat} {F0 T P0 V : Nat → Int32} {q : Ps} {R : List (Nat × (Nat → Int32))} {b nw : Nat} {B : Bu} (hI : InOk h ip bt) (hP : PaOk h pa ip rw sc) (nd : (ip :: bt :: pa :: rw :: R.map Prod.fst).Nodup) (hn : n ≤ 500) (hq : TkO n q.1) (hB : BuOk h b) (fo : ∀ a, a ∈ ip :: bt :: pa :: rw :: R.map Prod.fst → Fo h b a) (hw : B.1 7 = nI nw) (hnw : nw ≤ 6) : CR E m_PA_readWeights [.ref pa, .ref b] (wL (wB h b B) ((ip, rF F0 n q.1) :: (bt, T) :: (pa, rP P0 q.2) :: (rw, V) :: R)) (some (.int (bI (Y_weights T n q B nw).1))) (wL (wB h b (Y_weights T n q B nw).2.2.1) ((ip, rF F0 n (Y_weights T n q B nw).2.1.1) :: (bt, T) :: (pa, rP P0 (Y_weights T n q B nw).2.1.2) :: (rw, V) :: R)) := by
  refine ct_of rfl (by decide +kernel) (Nat.le_of_ble_eq_true rfl) ?_
  show G E m_PA_readWeights 0 [(0, .ref pa), (1, .ref b)] [] (wL (wB h b B) ((ip, rF F0 n q.1) :: (bt, T) :: (pa, rP P0 q.2) :: (rw, V) :: R)) 0 0 _ noX
  obtain ⟨k_ip, r_ip_0, k_bt, l_bt⟩ := id hI
  obtain ⟨k_pa, r_pa_0, r_pa_1, r_pa_2, k_rw, l_rw⟩ := id hP
  refine g_aload_n (pc := 0) d_PA_readWeights_0 rfl 0 rfl ?_
  refine g_ldcs (pc := 1) d_PA_readWeights_1 2 rfl ?_
  refine g_cV1 (pc := 3) (ci := 1) (As := [.ref _]) d_PA_readWeights_3 rfl mv_PA_takeWord st_PA_readWeights_88 rfl rfl (by decide) rfl rfl (Nat.le_of_ble_eq_true rfl) k_pa (cx_PA_takeWord hI hP nd hn hq (by decide)) ?_
  refine g_if_eq (pc := 6) (tgt := 17) d_PA_readWeights_6 (by decide) (fun c_6 => ?_) (fun c_6 => ?_)
  · skip
    have w2 : ¬ (Y_word T n 2 q).1 = true := by rw [bI_0.mp c_6]; decide
    refine g_iconst (pc := 17) (v := 0) d_PA_readWeights_17 (by decide) ?_
    refine g_zret (pc := 18) d_PA_readWeights_18 rfl (by first | rfl | exact nar_bI _) ?_
    unfold Y_weights
    first | (rw [if_neg w2]; exact ⟨rfl, rfl⟩) | (rw [if_pos w1, if_neg w4]; exact ⟨rfl, rfl⟩)
  · skip
    have w1 := bI_n0 c_6
    refine g_aload_n (pc := 9) d_PA_readWeights_9 rfl 0 rfl ?_
    refine g_aload_n (pc := 10) d_PA_readWeights_10 rfl 1 rfl ?_
    refine g_cV1 (pc := 11) (ci := 1) (As := [.ref _]) d_PA_readWeights_11 rfl mv_PA_takeWeight st_PA_readWeights_109 rfl rfl (by decide) rfl rfl (Nat.le_of_ble_eq_true rfl) k_pa (cx_PA_takeWeight hI hP nd hn (TkO_word hq) hB fo hw hnw) ?_
    refine g_if_ne (pc := 14) (tgt := 19) d_PA_readWeights_14 (by decide) (fun c_14 => ?_) (fun c_14 => ?_)
    · skip
      have w3 := bI_n0 c_14
      refine g_iconst (pc := 19) (v := 0) d_PA_readWeights_19 (by decide) ?_
      refine g_nameI (fun x_1 hx_1 => ?_)
      refine g_istore_n (pc := 20) (lv' := [(2, .int x_1), (0, .ref pa), (1, .ref b)]) d_PA_readWeights_20 rfl (by decide) rfl ?_
      subst hx_1
      have iv := Y_weight_inv (T := T) (n := n) (q := (Y_word T n 2 q).2) hw hnw
      unfold Y_weights
      rw [if_pos w1, if_pos w3]
      exact lp_PA_readWeights hI hP nd hn hB fo 7 0 _ _ _ (Nat.zero_le _) (TkO_weight (TkO_word hq)) iv.1 iv.2.1 (by omega)
    · skip
      have w4 : ¬ (Y_weight T n (Y_word T n 2 q).2 B nw).1 = true := by rw [bI_0.mp c_14]; decide
      refine g_iconst (pc := 17) (v := 0) d_PA_readWeights_17 (by decide) ?_
      refine g_zret (pc := 18) d_PA_readWeights_18 rfl (by first | rfl | exact nar_bI _) ?_
      unfold Y_weights
      first | (rw [if_neg w2]; exact ⟨rfl, rfl⟩) | (rw [if_pos w1, if_neg w4]; exact ⟨rfl, rfl⟩)
set_option maxRecDepth 20000 in
theorem cx_PA_readBureau {E : En} {h : Hp} {ip bt pa rw sc n : Nat} {F0 T P0 V : Nat → Int32} {q : Ps} {R : List (Nat × (Nat → Int32))} {b : Nat} {B : Bu} (hI : InOk h ip bt) (hP : PaOk h pa ip rw sc) (nd : (ip :: bt :: pa :: rw :: R.map Prod.fst).Nodup) (hn : n ≤ 500) (hq : TkO n q.1) (hB : BuOk h b) (fo : ∀ a, a ∈ ip :: bt :: pa :: rw :: R.map Prod.fst → Fo h b a) : CR E m_PA_readBureau [.ref pa, .ref b] (wL (wB h b B) ((ip, rF F0 n q.1) :: (bt, T) :: (pa, rP P0 q.2) :: (rw, V) :: R)) (some (.int (bI (Y_bur T n q V B).1))) (wL (wB h b (Y_bur T n q V B).2.2.2) ((ip, rF F0 n (Y_bur T n q V B).2.1.1) :: (bt, T) :: (pa, rP P0 (Y_bur T n q V B).2.1.2) :: (rw, (Y_bur T n q V B).2.2.1) :: R)) := by
  refine ct_of rfl (by decide +kernel) (Nat.le_of_ble_eq_true rfl) ?_
  show G E m_PA_readBureau 0 [(0, .ref pa), (1, .ref b)] [] (wL (wB h b B) ((ip, rF F0 n q.1) :: (bt, T) :: (pa, rP P0 q.2) :: (rw, V) :: R)) 0 0 _ noX
  obtain ⟨k_ip, r_ip_0, k_bt, l_bt⟩ := id hI
  obtain ⟨k_pa, r_pa_0, r_pa_1, r_pa_2, k_rw, l_rw⟩ := id hP
  refine g_aload_n (pc := 0) d_PA_readBureau_0 rfl 0 rfl ?_
  refine g_ldcs (pc := 1) d_PA_readBureau_1 1 rfl ?_
  refine g_cV1 (pc := 3) (ci := 1) (As := [.ref _]) d_PA_readBureau_3 rfl mv_PA_takeWord st_PA_readBureau_88 rfl rfl (by decide) rfl rfl (Nat.le_of_ble_eq_true rfl) k_pa (cx_PA_takeWord hI hP nd hn hq (by decide)) ?_
  refine g_if_eq (pc := 6) (tgt := 26) d_PA_readBureau_6 (by decide) (fun c_6 => ?_) (fun c_6 => ?_)
  · skip
    have y2 : ¬ (Y_word T n 1 q).1 = true := by rw [bI_0.mp c_6]; decide
    refine g_iconst (pc := 26) (v := 0) d_PA_readBureau_26 (by decide) ?_
    refine g_zret (pc := 27) d_PA_readBureau_27 rfl (by first | rfl | exact nar_bI _) ?_
    unfold Y_bur
    dsimp only
    first | (rw [if_neg y2]; exact ⟨rfl, rfl⟩) | (rw [if_pos y1, if_neg y4]; exact ⟨rfl, rfl⟩) | (rw [if_pos y1, if_pos y3, if_neg y6]; exact ⟨rfl, rfl⟩)
  · skip
    have y1 := bI_n0 c_6
    refine g_aload_n (pc := 9) d_PA_readBureau_9 rfl 0 rfl ?_
    refine g_getsN (pc := 10) d_PA_readBureau_10 0 rfl (tn_2 164 rfl rfl : (Jvm.Cond.fieldLinkNest "HonestScales$Parser" (92 : Nat) "HonestScales" "BUREAU_RANGES" "[I" "HonestScales") ∈ tN) ?_
    show G E m_PA_readBureau 13 _ (.ref (eS E 100) :: _) _ 0 0 _ noX
    refine g_cV1 (pc := 13) (ci := 1) (As := [.ref _]) d_PA_readBureau_13 rfl mv_PA_takeRow st_PA_readBureau_95 rfl rfl (by decide) rfl rfl (Nat.le_of_ble_eq_true rfl) k_pa (cx_PA_takeRow hI hP nd hn (TkO_word hq) (tw := 0) (l := RB) (cnt := 7) rfl (by decide) rfl) ?_
    refine g_if_eq (pc := 16) (tgt := 26) d_PA_readBureau_16 (by decide) (fun c_16 => ?_) (fun c_16 => ?_)
    · skip
      have y4 : ¬ (Y_row T n RB 7 0 (Y_word T n 1 q).2 V).1 = true := by rw [bI_0.mp c_16]; decide
      refine g_iconst (pc := 26) (v := 0) d_PA_readBureau_26 (by decide) ?_
      refine g_zret (pc := 27) d_PA_readBureau_27 rfl (by first | rfl | exact nar_bI _) ?_
      unfold Y_bur
      dsimp only
      first | (rw [if_neg y2]; exact ⟨rfl, rfl⟩) | (rw [if_pos y1, if_neg y4]; exact ⟨rfl, rfl⟩) | (rw [if_pos y1, if_pos y3, if_neg y6]; exact ⟨rfl, rfl⟩)
    · skip
      have y3 := bI_n0 c_16
      refine g_aload_n (pc := 19) d_PA_readBureau_19 rfl 0 rfl ?_
      refine g_cV1 (pc := 20) (ci := 1) (As := []) d_PA_readBureau_20 rfl mv_PA_takeSemicolon st_PA_readBureau_99 rfl rfl (by decide) rfl rfl (Nat.le_of_ble_eq_true rfl) k_pa (cx_PA_takeSemicolon hI hP nd hn (TkO_row (TkO_word hq))) ?_
      refine g_if_ne (pc := 23) (tgt := 28) d_PA_readBureau_23 (by decide) (fun c_23 => ?_) (fun c_23 => ?_)
      · skip
        have y5 := bI_n0 c_23
        refine g_aload_n (pc := 28) d_PA_readBureau_28 rfl 1 rfl ?_
        refine g_aload_n (pc := 29) d_PA_readBureau_29 rfl 0 rfl ?_
        refine g_getR (pc := 30) (ci := 1) (f := 2) (b := rw) rfl r_pa_2 d_PA_readBureau_30 fl_PA_25 (by decide) k_pa ?_
        refine g_h (wB_wL (by exact fo)).symm ?_
        refine g_cV0 (pc := 33) (ci := 4) (As := [.ref _]) d_PA_readBureau_33 rfl mv_BU_begin st_PA_readBureau_103 rfl rfl (by decide) rfl rfl (Nat.le_of_ble_eq_true rfl) hB.1 (cb_beginV hB k_rw l_rw (fo rw (by simp)) (wLf_at 3 rfl nd)) ?_
        refine g_h (wB_wL (by exact fo)) ?_
        refine g_iconst (pc := 36) (v := 1) d_PA_readBureau_36 (by decide) ?_
        refine g_zret (pc := 37) d_PA_readBureau_37 rfl (by first | rfl | exact nar_bI _) ?_
        unfold Y_bur
        dsimp only
        rw [if_pos y1, if_pos y3, if_pos y5]
        exact ⟨rfl, rfl⟩
      · skip
        have y6 : ¬ (Y_semi T n (Y_row T n RB 7 0 (Y_word T n 1 q).2 V).2.1).1 = true := by rw [bI_0.mp c_23]; decide
        refine g_iconst (pc := 26) (v := 0) d_PA_readBureau_26 (by decide) ?_
        refine g_zret (pc := 27) d_PA_readBureau_27 rfl (by first | rfl | exact nar_bI _) ?_
        unfold Y_bur
        dsimp only
        first | (rw [if_neg y2]; exact ⟨rfl, rfl⟩) | (rw [if_pos y1, if_neg y4]; exact ⟨rfl, rfl⟩) | (rw [if_pos y1, if_pos y3, if_neg y6]; exact ⟨rfl, rfl⟩)
theorem lp_PA_readShops {E : En} {h : Hp} {ip bt pa rw sc n : Nat} {F0 T P0 : Nat → Int32} {R : List (Nat × (Nat → Int32))} {b : Nat} (hI : InOk h ip bt) (hP : PaOk h pa ip rw sc) (nd : (ip :: bt :: pa :: rw :: R.map Prod.fst).Nodup) (hn : n ≤ 500) (hB : BuOk h b) (fo : ∀ a, a ∈ ip :: bt :: pa :: rw :: R.map Prod.fst → Fo h b a) : ∀ (d i : Nat) (q : Ps) (V : Nat → Int32) (B : Bu), i ≤ 8 → TkO n q.1 → B.1 8 = nI i → 8 - i < d → G E m_PA_readShops 2 [(2, .int (nI i)), (0, .ref pa), (1, .ref b)] [] (wL (wB h b B) ((ip, rF F0 n q.1) :: (bt, T) :: (pa, rP P0 q.2) :: (rw, V) :: R)) 0 0 (fun v1 h1 => v1 = some (.int (bI (Y_sh T n (8 - i) i q V B).1)) ∧ h1 = wL (wB h b (Y_sh T n (8 - i) i q V B).2.2.2) ((ip, rF F0 n (Y_sh T n (8 - i) i q V B).2.1.1) :: (bt, T) :: (pa, rP P0 (Y_sh T n (8 - i) i q V B).2.1.2) :: (rw, (Y_sh T n (8 - i) i q V B).2.2.1) :: R)) noX := by
  obtain ⟨k_ip, r_ip_0, k_bt, l_bt⟩ := id hI
  obtain ⟨k_pa, r_pa_0, r_pa_1, r_pa_2, k_rw, l_rw⟩ := id hP
  intro d
  induction d with
  | zero => intros; omega
  | succ d ih =>
    intro i q V B hi hq hs hd
    refine g_iload_n (pc := 2) d_PA_readShops_2 rfl 0 rfl ?_
    refine g_bipush (pc := 3) (v := 8) d_PA_readShops_3 (by decide) ?_
    refine g_icmp_ge (pc := 5) (tgt := 66) d_PA_readShops_5 (by decide) (fun c_5 => ?_) (fun c_5 => ?_)
    · skip
      have e9 : 8 - i = 0 := by have := (nI_leI (a := 8) (b := i) (by omega) (by omega)).mp c_5; omega
      refine g_aload_n (pc := 66) d_PA_readShops_66 rfl 1 rfl ?_
      refine g_getR (pc := 67) (ci := 1) (f := 0) (b := ip) rfl r_pa_0 d_PA_readShops_67 fl_PA_12 (by decide) k_pa ?_
      refine g_lgI0 (pc := 70) (ci := 2) (f := 2) rfl d_PA_readShops_70 fl_PA_61 (by decide) k_ip nd ?_
      refine g_top rF_2 ?_
      refine g_if_eq (pc := 73) (tgt := 100) d_PA_readShops_73 (by decide) (fun c_73 => ?_) (fun c_73 => ?_)
      · skip
        have k0 : q.1.1 = 0 := nI_inj (b := 0) (by have := hq.1; omega) (by decide) c_73
        refine g_iconst (pc := 100) (v := 1) d_PA_readShops_100 (by decide) ?_
        refine g_goto (pc := 101) (tgt := 105) d_PA_readShops_101 (by decide) ?_
        refine g_zret (pc := 105) d_PA_readShops_105 rfl (by first | rfl | exact nar_bI _) ?_
        rw [e9, Y_sh]
        first | (rw [if_pos k0]; exact ⟨rfl, rfl⟩) | (rw [if_neg k0, if_pos x1]; exact ⟨rfl, rfl⟩) | (rw [if_neg k0, if_neg x2]; exact ⟨rfl, rfl⟩)
      · skip
        have k0 : ¬ q.1.1 = 0 := fun z => c_73 (by rw [z]; rfl)
        refine g_aload_n (pc := 76) d_PA_readShops_76 rfl 1 rfl ?_
        refine g_aload_n (pc := 77) d_PA_readShops_77 rfl 1 rfl ?_
        refine g_getR (pc := 78) (ci := 1) (f := 0) (b := ip) rfl r_pa_0 d_PA_readShops_78 fl_PA_12 (by decide) k_pa ?_
        refine g_ldcs (pc := 81) d_PA_readShops_81 3 rfl ?_
        refine g_cV1 (pc := 83) (ci := 2) (As := [.ref _]) d_PA_readShops_83 rfl mv_IN_isWord st_PA_readShops_140 rfl rfl (by decide) rfl rfl (Nat.le_of_ble_eq_true rfl) k_ip (cy_IN_isWord hI nd (by decide) hn hq) ?_
        refine g_if_eq (pc := 86) (tgt := 93) d_PA_readShops_86 (by decide) (fun c_86 => ?_) (fun c_86 => ?_)
        · skip
          have x2 : ¬ Y_isw T q.1 3 = true := by rw [bI_0.mp c_86]; decide
          refine g_iconst (pc := 93) (v := 1) d_PA_readShops_93 (by decide) ?_
          refine g_cV1 (pc := 94) (ci := 1) (As := [.int _]) d_PA_readShops_94 rfl mv_PA_fail st_PA_readShops_72 rfl rfl (by decide) rfl rfl (Nat.le_of_ble_eq_true rfl) k_pa (cx_PA_fail hI hP nd hn hq) ?_
          refine g_if_eq (pc := 97) (tgt := 104) d_PA_readShops_97 (by decide) (fun c_97 => ?_) (fun c_97 => ?_)
          · skip
            refine g_iconst (pc := 104) (v := 0) d_PA_readShops_104 (by decide) ?_
            refine g_zret (pc := 105) d_PA_readShops_105 rfl (by first | rfl | exact nar_bI _) ?_
            rw [e9, Y_sh]
            first | (rw [if_pos k0]; exact ⟨rfl, rfl⟩) | (rw [if_neg k0, if_pos x1]; exact ⟨rfl, rfl⟩) | (rw [if_neg k0, if_neg x2]; exact ⟨rfl, rfl⟩)
          · exact absurd rfl c_97
        · skip
          have x1 := bI_n0 c_86
          refine g_iconst (pc := 89) (v := 4) d_PA_readShops_89 (by decide) ?_
          refine g_goto (pc := 90) (tgt := 94) d_PA_readShops_90 (by decide) ?_
          refine g_cV1 (pc := 94) (ci := 1) (As := [.int _]) d_PA_readShops_94 rfl mv_PA_fail st_PA_readShops_72 rfl rfl (by decide) rfl rfl (Nat.le_of_ble_eq_true rfl) k_pa (cx_PA_fail hI hP nd hn hq) ?_
          refine g_if_eq (pc := 97) (tgt := 104) d_PA_readShops_97 (by decide) (fun c_97 => ?_) (fun c_97 => ?_)
          · skip
            refine g_iconst (pc := 104) (v := 0) d_PA_readShops_104 (by decide) ?_
            refine g_zret (pc := 105) d_PA_readShops_105 rfl (by first | rfl | exact nar_bI _) ?_
            rw [e9, Y_sh]
            first | (rw [if_pos k0]; exact ⟨rfl, rfl⟩) | (rw [if_neg k0, if_pos x1]; exact ⟨rfl, rfl⟩) | (rw [if_neg k0, if_neg x2]; exact ⟨rfl, rfl⟩)
          · exact absurd rfl c_97
    · skip
      have e9 : i < 8 := Nat.lt_of_not_le (fun z => c_5 ((nI_leI (a := 8) (b := i) (by omega) (by omega)).mpr z))
      refine g_iload_n (pc := 8) d_PA_readShops_8 rfl 0 rfl ?_
      refine g_if_le (pc := 9) (tgt := 24) d_PA_readShops_9 (by decide) (fun c_9 => ?_) (fun c_9 => ?_)
      · skip
        have z0 : ¬ (0 < i ∧ q.1.1 = 0) := fun z => absurd ((nI_leI (a := i) (b := 0) (by omega) (by omega)).mp c_9) (by omega)
        refine g_aload_n (pc := 24) d_PA_readShops_24 rfl 1 rfl ?_
        refine g_ldcs (pc := 25) d_PA_readShops_25 3 rfl ?_
        refine g_cV1 (pc := 27) (ci := 1) (As := [.ref _]) d_PA_readShops_27 rfl mv_PA_takeWord st_PA_readShops_88 rfl rfl (by decide) rfl rfl (Nat.le_of_ble_eq_true rfl) k_pa (cx_PA_takeWord hI hP nd hn hq (by decide)) ?_
        refine g_if_eq (pc := 30) (tgt := 50) d_PA_readShops_30 (by decide) (fun c_30 => ?_) (fun c_30 => ?_)
        · skip
          have y2 : ¬ (Y_word T n 3 q).1 = true := by rw [bI_0.mp c_30]; decide
          refine g_iconst (pc := 50) (v := 0) d_PA_readShops_50 (by decide) ?_
          refine g_zret (pc := 51) d_PA_readShops_51 rfl (by first | rfl | exact nar_bI _) ?_
          rw [show 8 - i = (8 - (i + 1)) + 1 by omega, Y_sh, if_neg z0]
          unfold Y_shop1
          dsimp only
          first | (rw [if_neg y2]; exact ⟨rfl, rfl⟩) | (rw [if_pos y1, if_neg y4]; exact ⟨rfl, rfl⟩) | (rw [if_pos y1, if_pos y3, if_neg y6]; exact ⟨rfl, rfl⟩)
        · skip
          have y1 := bI_n0 c_30
          refine g_aload_n (pc := 33) d_PA_readShops_33 rfl 1 rfl ?_
          refine g_getsN (pc := 34) d_PA_readShops_34 1 rfl (tn_2 208 rfl rfl : (Jvm.Cond.fieldLinkNest "HonestScales$Parser" (134 : Nat) "HonestScales" "SHOP_RANGES" "[I" "HonestScales") ∈ tN) ?_
          show G E m_PA_readShops 37 _ (.ref (eS E 101) :: _) _ 0 0 _ noX
          refine g_cV1 (pc := 37) (ci := 1) (As := [.ref _]) d_PA_readShops_37 rfl mv_PA_takeRow st_PA_readShops_95 rfl rfl (by decide) rfl rfl (Nat.le_of_ble_eq_true rfl) k_pa (cx_PA_takeRow hI hP nd hn (TkO_word hq) (tw := 1) (l := RS) (cnt := 8) rfl (by decide) rfl) ?_
          refine g_if_eq (pc := 40) (tgt := 50) d_PA_readShops_40 (by decide) (fun c_40 => ?_) (fun c_40 => ?_)
          · skip
            have y4 : ¬ (Y_row T n RS 8 0 (Y_word T n 3 q).2 V).1 = true := by rw [bI_0.mp c_40]; decide
            refine g_iconst (pc := 50) (v := 0) d_PA_readShops_50 (by decide) ?_
            refine g_zret (pc := 51) d_PA_readShops_51 rfl (by first | rfl | exact nar_bI _) ?_
            rw [show 8 - i = (8 - (i + 1)) + 1 by omega, Y_sh, if_neg z0]
            unfold Y_shop1
            dsimp only
            first | (rw [if_neg y2]; exact ⟨rfl, rfl⟩) | (rw [if_pos y1, if_neg y4]; exact ⟨rfl, rfl⟩) | (rw [if_pos y1, if_pos y3, if_neg y6]; exact ⟨rfl, rfl⟩)
          · skip
            have y3 := bI_n0 c_40
            refine g_aload_n (pc := 43) d_PA_readShops_43 rfl 1 rfl ?_
            refine g_cV1 (pc := 44) (ci := 1) (As := []) d_PA_readShops_44 rfl mv_PA_takeSemicolon st_PA_readShops_99 rfl rfl (by decide) rfl rfl (Nat.le_of_ble_eq_true rfl) k_pa (cx_PA_takeSemicolon hI hP nd hn (TkO_row (TkO_word hq))) ?_
            refine g_if_ne (pc := 47) (tgt := 52) d_PA_readShops_47 (by decide) (fun c_47 => ?_) (fun c_47 => ?_)
            · skip
              have y5 := bI_n0 c_47
              refine g_aload_n (pc := 52) d_PA_readShops_52 rfl 2 rfl ?_
              refine g_aload_n (pc := 53) d_PA_readShops_53 rfl 1 rfl ?_
              refine g_getR (pc := 54) (ci := 1) (f := 2) (b := rw) rfl r_pa_2 d_PA_readShops_54 fl_PA_25 (by decide) k_pa ?_
              refine g_h (wB_wL (by exact fo)).symm ?_
              refine g_cV0 (pc := 57) (ci := 4) (As := [.ref _]) d_PA_readShops_57 rfl mv_BU_addShop st_PA_readShops_137 rfl rfl (by decide) rfl rfl (Nat.le_of_ble_eq_true rfl) hB.1 (cb_addShopV hB hs e9 k_rw l_rw (fo rw (by simp)) (wLf_at 3 rfl nd)) ?_
              refine g_h (wB_wL (by exact fo)) ?_
              obtain ⟨x_1, hx_1⟩ : ∃ y : Int32, y = (nI i) + 1 := ⟨_, rfl⟩
              refine g_iinc (pc := 60) (w := 0) (v := x_1) (lv' := [(2, .int x_1), (0, .ref pa), (1, .ref b)]) d_PA_readShops_60 rfl (by rw [hx_1]; rfl) (by decide) rfl ?_
              refine g_goto (pc := 63) (tgt := 2) d_PA_readShops_63 (by decide) ?_
              have e8 : x_1 = nI (i + 1) := by rw [hx_1]; exact nI_1 _
              clear hx_1
              subst e8
              refine g_perm [0, 1, 2] rfl ?_
              have e6 : (Y_shop1 T n i q V B) = (true, (Y_semi T n (Y_row T n RS 8 0 (Y_word T n 3 q).2 V).2.1).2, (Y_row T n RS 8 0 (Y_word T n 3 q).2 V).2.2, P_addS B i (Y_row T n RS 8 0 (Y_word T n 3 q).2 V).2.2) := by unfold Y_shop1; dsimp only; rw [if_pos y1, if_pos y3, if_pos y5]
              rw [show 8 - i = (8 - (i + 1)) + 1 by omega, Y_sh, if_neg z0, if_pos (by rw [e6]), e6]
              exact ih (i + 1) _ _ _ (by omega) (TkO_semi (TkO_row (TkO_word hq))) rfl (by omega)
            · skip
              have y6 : ¬ (Y_semi T n (Y_row T n RS 8 0 (Y_word T n 3 q).2 V).2.1).1 = true := by rw [bI_0.mp c_47]; decide
              refine g_iconst (pc := 50) (v := 0) d_PA_readShops_50 (by decide) ?_
              refine g_zret (pc := 51) d_PA_readShops_51 rfl (by first | rfl | exact nar_bI _) ?_
              rw [show 8 - i = (8 - (i + 1)) + 1 by omega, Y_sh, if_neg z0]
              unfold Y_shop1
              dsimp only
              first | (rw [if_neg y2]; exact ⟨rfl, rfl⟩) | (rw [if_pos y1, if_neg y4]; exact ⟨rfl, rfl⟩) | (rw [if_pos y1, if_pos y3, if_neg y6]; exact ⟨rfl, rfl⟩)
      · skip
        have i0 : 0 < i := Nat.lt_of_not_le (fun z => c_9 ((nI_leI (a := i) (b := 0) (by omega) (by omega)).mpr z))
        refine g_aload_n (pc := 12) d_PA_readShops_12 rfl 1 rfl ?_
        refine g_getR (pc := 13) (ci := 1) (f := 0) (b := ip) rfl r_pa_0 d_PA_readShops_13 fl_PA_12 (by decide) k_pa ?_
        refine g_lgI0 (pc := 16) (ci := 2) (f := 2) rfl d_PA_readShops_16 fl_PA_61 (by decide) k_ip nd ?_
        refine g_top rF_2 ?_
        refine g_if_ne (pc := 19) (tgt := 24) d_PA_readShops_19 (by decide) (fun c_19 => ?_) (fun c_19 => ?_)
        · skip
          have k0 : ¬ q.1.1 = 0 := fun z => c_19 (by rw [z]; rfl)
          have z0 : ¬ (0 < i ∧ q.1.1 = 0) := fun z => k0 z.2
          refine g_aload_n (pc := 24) d_PA_readShops_24 rfl 1 rfl ?_
          refine g_ldcs (pc := 25) d_PA_readShops_25 3 rfl ?_
          refine g_cV1 (pc := 27) (ci := 1) (As := [.ref _]) d_PA_readShops_27 rfl mv_PA_takeWord st_PA_readShops_88 rfl rfl (by decide) rfl rfl (Nat.le_of_ble_eq_true rfl) k_pa (cx_PA_takeWord hI hP nd hn hq (by decide)) ?_
          refine g_if_eq (pc := 30) (tgt := 50) d_PA_readShops_30 (by decide) (fun c_30 => ?_) (fun c_30 => ?_)
          · skip
            have y2 : ¬ (Y_word T n 3 q).1 = true := by rw [bI_0.mp c_30]; decide
            refine g_iconst (pc := 50) (v := 0) d_PA_readShops_50 (by decide) ?_
            refine g_zret (pc := 51) d_PA_readShops_51 rfl (by first | rfl | exact nar_bI _) ?_
            rw [show 8 - i = (8 - (i + 1)) + 1 by omega, Y_sh, if_neg z0]
            unfold Y_shop1
            dsimp only
            first | (rw [if_neg y2]; exact ⟨rfl, rfl⟩) | (rw [if_pos y1, if_neg y4]; exact ⟨rfl, rfl⟩) | (rw [if_pos y1, if_pos y3, if_neg y6]; exact ⟨rfl, rfl⟩)
          · skip
            have y1 := bI_n0 c_30
            refine g_aload_n (pc := 33) d_PA_readShops_33 rfl 1 rfl ?_
            refine g_getsN (pc := 34) d_PA_readShops_34 1 rfl (tn_2 208 rfl rfl : (Jvm.Cond.fieldLinkNest "HonestScales$Parser" (134 : Nat) "HonestScales" "SHOP_RANGES" "[I" "HonestScales") ∈ tN) ?_
            show G E m_PA_readShops 37 _ (.ref (eS E 101) :: _) _ 0 0 _ noX
            refine g_cV1 (pc := 37) (ci := 1) (As := [.ref _]) d_PA_readShops_37 rfl mv_PA_takeRow st_PA_readShops_95 rfl rfl (by decide) rfl rfl (Nat.le_of_ble_eq_true rfl) k_pa (cx_PA_takeRow hI hP nd hn (TkO_word hq) (tw := 1) (l := RS) (cnt := 8) rfl (by decide) rfl) ?_
            refine g_if_eq (pc := 40) (tgt := 50) d_PA_readShops_40 (by decide) (fun c_40 => ?_) (fun c_40 => ?_)
            · skip
              have y4 : ¬ (Y_row T n RS 8 0 (Y_word T n 3 q).2 V).1 = true := by rw [bI_0.mp c_40]; decide
              refine g_iconst (pc := 50) (v := 0) d_PA_readShops_50 (by decide) ?_
              refine g_zret (pc := 51) d_PA_readShops_51 rfl (by first | rfl | exact nar_bI _) ?_
              rw [show 8 - i = (8 - (i + 1)) + 1 by omega, Y_sh, if_neg z0]
              unfold Y_shop1
              dsimp only
              first | (rw [if_neg y2]; exact ⟨rfl, rfl⟩) | (rw [if_pos y1, if_neg y4]; exact ⟨rfl, rfl⟩) | (rw [if_pos y1, if_pos y3, if_neg y6]; exact ⟨rfl, rfl⟩)
            · skip
              have y3 := bI_n0 c_40
              refine g_aload_n (pc := 43) d_PA_readShops_43 rfl 1 rfl ?_
              refine g_cV1 (pc := 44) (ci := 1) (As := []) d_PA_readShops_44 rfl mv_PA_takeSemicolon st_PA_readShops_99 rfl rfl (by decide) rfl rfl (Nat.le_of_ble_eq_true rfl) k_pa (cx_PA_takeSemicolon hI hP nd hn (TkO_row (TkO_word hq))) ?_
              refine g_if_ne (pc := 47) (tgt := 52) d_PA_readShops_47 (by decide) (fun c_47 => ?_) (fun c_47 => ?_)
              · skip
                have y5 := bI_n0 c_47
                refine g_aload_n (pc := 52) d_PA_readShops_52 rfl 2 rfl ?_
                refine g_aload_n (pc := 53) d_PA_readShops_53 rfl 1 rfl ?_
                refine g_getR (pc := 54) (ci := 1) (f := 2) (b := rw) rfl r_pa_2 d_PA_readShops_54 fl_PA_25 (by decide) k_pa ?_
                refine g_h (wB_wL (by exact fo)).symm ?_
                refine g_cV0 (pc := 57) (ci := 4) (As := [.ref _]) d_PA_readShops_57 rfl mv_BU_addShop st_PA_readShops_137 rfl rfl (by decide) rfl rfl (Nat.le_of_ble_eq_true rfl) hB.1 (cb_addShopV hB hs e9 k_rw l_rw (fo rw (by simp)) (wLf_at 3 rfl nd)) ?_
                refine g_h (wB_wL (by exact fo)) ?_
                obtain ⟨x_2, hx_2⟩ : ∃ y : Int32, y = (nI i) + 1 := ⟨_, rfl⟩
                refine g_iinc (pc := 60) (w := 0) (v := x_2) (lv' := [(2, .int x_2), (0, .ref pa), (1, .ref b)]) d_PA_readShops_60 rfl (by rw [hx_2]; rfl) (by decide) rfl ?_
                refine g_goto (pc := 63) (tgt := 2) d_PA_readShops_63 (by decide) ?_
                have e8 : x_2 = nI (i + 1) := by rw [hx_2]; exact nI_1 _
                clear hx_2
                subst e8
                refine g_perm [0, 1, 2] rfl ?_
                have e6 : (Y_shop1 T n i q V B) = (true, (Y_semi T n (Y_row T n RS 8 0 (Y_word T n 3 q).2 V).2.1).2, (Y_row T n RS 8 0 (Y_word T n 3 q).2 V).2.2, P_addS B i (Y_row T n RS 8 0 (Y_word T n 3 q).2 V).2.2) := by unfold Y_shop1; dsimp only; rw [if_pos y1, if_pos y3, if_pos y5]
                rw [show 8 - i = (8 - (i + 1)) + 1 by omega, Y_sh, if_neg z0, if_pos (by rw [e6]), e6]
                exact ih (i + 1) _ _ _ (by omega) (TkO_semi (TkO_row (TkO_word hq))) rfl (by omega)
              · skip
                have y6 : ¬ (Y_semi T n (Y_row T n RS 8 0 (Y_word T n 3 q).2 V).2.1).1 = true := by rw [bI_0.mp c_47]; decide
                refine g_iconst (pc := 50) (v := 0) d_PA_readShops_50 (by decide) ?_
                refine g_zret (pc := 51) d_PA_readShops_51 rfl (by first | rfl | exact nar_bI _) ?_
                rw [show 8 - i = (8 - (i + 1)) + 1 by omega, Y_sh, if_neg z0]
                unfold Y_shop1
                dsimp only
                first | (rw [if_neg y2]; exact ⟨rfl, rfl⟩) | (rw [if_pos y1, if_neg y4]; exact ⟨rfl, rfl⟩) | (rw [if_pos y1, if_pos y3, if_neg y6]; exact ⟨rfl, rfl⟩)
        · skip
          have k0 : q.1.1 = 0 := nI_inj (b := 0) (by have := hq.1; omega) (by decide) c_19
          refine g_iconst (pc := 22) (v := 1) d_PA_readShops_22 (by decide) ?_
          refine g_zret (pc := 23) d_PA_readShops_23 rfl (by first | rfl | exact nar_bI _) ?_
          rw [show 8 - i = (8 - (i + 1)) + 1 by omega, Y_sh, if_pos ⟨i0, k0⟩]
          exact ⟨rfl, rfl⟩
set_option maxRecDepth 20000 in
theorem cx_PA_readShops {E : En} {h : Hp} {ip bt pa rw sc n : Nat} {F0 T P0 V : Nat → Int32} {q : Ps} {R : List (Nat × (Nat → Int32))} {b : Nat} {B : Bu} (hI : InOk h ip bt) (hP : PaOk h pa ip rw sc) (nd : (ip :: bt :: pa :: rw :: R.map Prod.fst).Nodup) (hn : n ≤ 500) (hq : TkO n q.1) (hB : BuOk h b) (fo : ∀ a, a ∈ ip :: bt :: pa :: rw :: R.map Prod.fst → Fo h b a) (hs : B.1 8 = nI 0) : CR E m_PA_readShops [.ref pa, .ref b] (wL (wB h b B) ((ip, rF F0 n q.1) :: (bt, T) :: (pa, rP P0 q.2) :: (rw, V) :: R)) (some (.int (bI (Y_sh T n 8 0 q V B).1))) (wL (wB h b (Y_sh T n 8 0 q V B).2.2.2) ((ip, rF F0 n (Y_sh T n 8 0 q V B).2.1.1) :: (bt, T) :: (pa, rP P0 (Y_sh T n 8 0 q V B).2.1.2) :: (rw, (Y_sh T n 8 0 q V B).2.2.1) :: R)) := by
  refine ct_of rfl (by decide +kernel) (Nat.le_of_ble_eq_true rfl) ?_
  show G E m_PA_readShops 0 [(0, .ref pa), (1, .ref b)] [] (wL (wB h b B) ((ip, rF F0 n q.1) :: (bt, T) :: (pa, rP P0 q.2) :: (rw, V) :: R)) 0 0 _ noX
  obtain ⟨k_ip, r_ip_0, k_bt, l_bt⟩ := id hI
  obtain ⟨k_pa, r_pa_0, r_pa_1, r_pa_2, k_rw, l_rw⟩ := id hP
  refine g_iconst (pc := 0) (v := 0) d_PA_readShops_0 (by decide) ?_
  refine g_nameI (fun x_1 hx_1 => ?_)
  refine g_istore_n (pc := 1) (lv' := [(2, .int x_1), (0, .ref pa), (1, .ref b)]) d_PA_readShops_1 rfl (by decide) rfl ?_
  subst hx_1
  exact lp_PA_readShops hI hP nd hn hB fo 9 0 q V B (Nat.zero_le _) hq hs (by omega)
def Y_setup (T : Nat → Int32) (n : Nat) (q : Ps) (V : Nat → Int32) (B : Bu) : Bp :=
  let a := Y_bur T n (Y_start T n q) V B
  let w := Y_weights T n a.2.1 a.2.2.2 0
  if a.1 = true then (if w.1 = true then Y_sh T n 8 0 w.2.1 a.2.2.1 w.2.2.1 else (false, w.2.1, a.2.2.1, w.2.2.1)) else (false, a.2)
theorem Y_bur_t {T : Nat → Int32} {n : Nat} {q : Ps} {V : Nat → Int32} {B : Bu} (h : (Y_bur T n q V B).1 = true) : (Y_bur T n q V B).2.2.2.1 7 = nI 0 ∧ (Y_bur T n q V B).2.2.2.1 8 = nI 0 := by
  unfold Y_bur at *
  dsimp only at *
  split at h
  · next h1 =>
    split at h
    · next h2 =>
      split at h
      · next h3 =>
        rw [if_pos h1, if_pos h2, if_pos h3]
        exact ⟨rfl, rfl⟩
      · cases h
    · cases h
  · cases h
theorem Y_wl_inv {T : Nat → Int32} {n : Nat} : ∀ {d : Nat} {q : Ps} {B : Bu} {nw : Nat}, B.1 7 = nI nw → nw ≤ 6 → (Y_wl T n d q B nw).2.2.1.1 7 = nI (Y_wl T n d q B nw).2.2.2 ∧ (Y_wl T n d q B nw).2.2.2 ≤ 6 ∧ (∀ k, k ≠ 7 → (Y_wl T n d q B nw).2.2.1.1 k = B.1 k) ∧ (Y_wl T n d q B nw).2.2.1.2.2 = B.2.2
  | 0, q, B, nw, hw, hn => ⟨hw, hn, fun _ _ => rfl, rfl⟩
  | d + 1, q, B, nw, hw, hn => by
    have iv := Y_weight_inv (T := T) (n := n) (q := q) hw hn
    rw [Y_wl]
    split
    · split
      · have i2 := Y_wl_inv (T := T) (n := n) (d := d) (q := (Y_weight T n q B nw).2.1) iv.1 iv.2.1
        exact ⟨i2.1, i2.2.1, fun k hk => (i2.2.2.1 k hk).trans (iv.2.2.1 k hk), i2.2.2.2.trans iv.2.2.2⟩
      · exact iv
    · exact ⟨hw, hn, fun _ _ => rfl, rfl⟩
theorem Y_weights_inv {T : Nat → Int32} {n : Nat} {q : Ps} {B : Bu} {nw : Nat} (hw : B.1 7 = nI nw) (hn : nw ≤ 6) : (Y_weights T n q B nw).2.2.1.1 7 = nI (Y_weights T n q B nw).2.2.2 ∧ (Y_weights T n q B nw).2.2.2 ≤ 6 ∧ (∀ k, k ≠ 7 → (Y_weights T n q B nw).2.2.1.1 k = B.1 k) ∧ (Y_weights T n q B nw).2.2.1.2.2 = B.2.2 := by
  have iv := Y_weight_inv (T := T) (n := n) (q := (Y_word T n 2 q).2) hw hn
  unfold Y_weights
  split
  · split
    · have i2 := Y_wl_inv (T := T) (n := n) (d := 6) (q := (Y_weight T n (Y_word T n 2 q).2 B nw).2.1) iv.1 iv.2.1
      exact ⟨i2.1, i2.2.1, fun k hk => (i2.2.2.1 k hk).trans (iv.2.2.1 k hk), i2.2.2.2.trans iv.2.2.2⟩
    · exact iv
  · exact ⟨hw, hn, fun _ _ => rfl, rfl⟩
theorem TkO_wl {T : Nat → Int32} {n : Nat} : ∀ {d : Nat} {q : Ps} {B : Bu} {nw : Nat}, TkO n q.1 → TkO n (Y_wl T n d q B nw).2.1.1
  | 0, q, B, nw, h => TkO_semi h
  | d + 1, q, B, nw, h => by
    rw [Y_wl]
    split
    · split
      · exact TkO_wl (TkO_weight h)
      · exact TkO_weight h
    · exact TkO_semi h
theorem TkO_weights {T : Nat → Int32} {n nw : Nat} {q : Ps} {B : Bu} (h : TkO n q.1) : TkO n (Y_weights T n q B nw).2.1.1 := by
  unfold Y_weights
  split
  · split
    · exact TkO_wl (TkO_weight (TkO_word h))
    · exact TkO_weight (TkO_word h)
  · exact TkO_word h
set_option maxRecDepth 20000 in
theorem cx_PA_readSetup {E : En} {h : Hp} {ip bt pa rw sc n : Nat} {F0 T P0 V : Nat → Int32} {q : Ps} {R : List (Nat × (Nat → Int32))} {b : Nat} {B : Bu} (hI : InOk h ip bt) (hP : PaOk h pa ip rw sc) (nd : (ip :: bt :: pa :: rw :: R.map Prod.fst).Nodup) (hn : n ≤ 500) (hB : BuOk h b) (fo : ∀ a, a ∈ ip :: bt :: pa :: rw :: R.map Prod.fst → Fo h b a) : CR E m_PA_readSetup [.ref pa, .ref b] (wL (wB h b B) ((ip, rF F0 n q.1) :: (bt, T) :: (pa, rP P0 q.2) :: (rw, V) :: R)) (some (.int (bI (Y_setup T n q V B).1))) (wL (wB h b (Y_setup T n q V B).2.2.2) ((ip, rF F0 n (Y_setup T n q V B).2.1.1) :: (bt, T) :: (pa, rP P0 (Y_setup T n q V B).2.1.2) :: (rw, (Y_setup T n q V B).2.2.1) :: R)) := by
  refine ct_of rfl (by decide +kernel) (Nat.le_of_ble_eq_true rfl) ?_
  show G E m_PA_readSetup 0 [(0, .ref pa), (1, .ref b)] [] (wL (wB h b B) ((ip, rF F0 n q.1) :: (bt, T) :: (pa, rP P0 q.2) :: (rw, V) :: R)) 0 0 _ noX
  obtain ⟨k_ip, r_ip_0, k_bt, l_bt⟩ := id hI
  obtain ⟨k_pa, r_pa_0, r_pa_1, r_pa_2, k_rw, l_rw⟩ := id hP
  refine g_aload_n (pc := 0) d_PA_readSetup_0 rfl 0 rfl ?_
  refine g_cV0 (pc := 1) (ci := 1) (As := []) d_PA_readSetup_1 rfl mv_PA_start st_PA_readSetup_46 rfl rfl (by decide) rfl rfl (Nat.le_of_ble_eq_true rfl) k_pa (cx_PA_start hI hP nd hn) ?_
  refine g_aload_n (pc := 4) d_PA_readSetup_4 rfl 0 rfl ?_
  refine g_aload_n (pc := 5) d_PA_readSetup_5 rfl 1 rfl ?_
  refine g_cV1 (pc := 6) (ci := 1) (As := [.ref _]) d_PA_readSetup_6 rfl mv_PA_readBureau st_PA_readSetup_49 rfl rfl (by decide) rfl rfl (Nat.le_of_ble_eq_true rfl) k_pa (cx_PA_readBureau hI hP nd hn TkO_start hB fo) ?_
  refine g_if_eq (pc := 9) (tgt := 32) d_PA_readSetup_9 (by decide) (fun c_9 => ?_) (fun c_9 => ?_)
  · skip
    have y2 : ¬ (Y_bur T n (Y_start T n q) V B).1 = true := by rw [bI_0.mp c_9]; decide
    refine g_iconst (pc := 32) (v := 0) d_PA_readSetup_32 (by decide) ?_
    refine g_zret (pc := 33) d_PA_readSetup_33 rfl (by first | rfl | exact nar_bI _) ?_
    unfold Y_setup
    dsimp only
    first | (rw [if_neg y2]; exact ⟨rfl, rfl⟩) | (rw [if_pos y1, if_neg y4]; exact ⟨rfl, rfl⟩) | (rw [if_pos y1, if_pos y3, y5]; exact ⟨rfl, rfl⟩)
  · skip
    have y1 := bI_n0 c_9
    refine g_aload_n (pc := 12) d_PA_readSetup_12 rfl 0 rfl ?_
    refine g_aload_n (pc := 13) d_PA_readSetup_13 rfl 1 rfl ?_
    refine g_cV1 (pc := 14) (ci := 1) (As := [.ref _]) d_PA_readSetup_14 rfl mv_PA_readWeights st_PA_readSetup_52 rfl rfl (by decide) rfl rfl (Nat.le_of_ble_eq_true rfl) k_pa (cx_PA_readWeights hI hP nd hn (TkO_bur TkO_start) hB fo (Y_bur_t y1).1 (Nat.zero_le _)) ?_
    refine g_if_eq (pc := 17) (tgt := 32) d_PA_readSetup_17 (by decide) (fun c_17 => ?_) (fun c_17 => ?_)
    · skip
      have y4 : ¬ (Y_weights T n (Y_bur T n (Y_start T n q) V B).2.1 (Y_bur T n (Y_start T n q) V B).2.2.2 0).1 = true := by rw [bI_0.mp c_17]; decide
      refine g_iconst (pc := 32) (v := 0) d_PA_readSetup_32 (by decide) ?_
      refine g_zret (pc := 33) d_PA_readSetup_33 rfl (by first | rfl | exact nar_bI _) ?_
      unfold Y_setup
      dsimp only
      first | (rw [if_neg y2]; exact ⟨rfl, rfl⟩) | (rw [if_pos y1, if_neg y4]; exact ⟨rfl, rfl⟩) | (rw [if_pos y1, if_pos y3, y5]; exact ⟨rfl, rfl⟩)
    · skip
      have y3 := bI_n0 c_17
      refine g_aload_n (pc := 20) d_PA_readSetup_20 rfl 0 rfl ?_
      refine g_aload_n (pc := 21) d_PA_readSetup_21 rfl 1 rfl ?_
      refine g_cV1 (pc := 22) (ci := 1) (As := [.ref _]) d_PA_readSetup_22 rfl mv_PA_readShops st_PA_readSetup_55 rfl rfl (by decide) rfl rfl (Nat.le_of_ble_eq_true rfl) k_pa (cx_PA_readShops hI hP nd hn (TkO_weights (TkO_bur TkO_start)) hB fo (((Y_weights_inv (Y_bur_t y1).1 (Nat.zero_le _)).2.2.1 8 (by decide)).trans (Y_bur_t y1).2)) ?_
      refine g_if_eq (pc := 25) (tgt := 32) d_PA_readSetup_25 (by decide) (fun c_25 => ?_) (fun c_25 => ?_)
      · skip
        have y5 := bI_0.mp c_25
        refine g_iconst (pc := 32) (v := 0) d_PA_readSetup_32 (by decide) ?_
        refine g_zret (pc := 33) d_PA_readSetup_33 rfl (by first | rfl | exact nar_bI _) ?_
        unfold Y_setup
        dsimp only
        first | (rw [if_neg y2]; exact ⟨rfl, rfl⟩) | (rw [if_pos y1, if_neg y4]; exact ⟨rfl, rfl⟩) | (rw [if_pos y1, if_pos y3, y5]; exact ⟨rfl, rfl⟩)
      · skip
        have y5 := bI_n0 c_25
        refine g_iconst (pc := 28) (v := 1) d_PA_readSetup_28 (by decide) ?_
        refine g_goto (pc := 29) (tgt := 33) d_PA_readSetup_29 (by decide) ?_
        refine g_zret (pc := 33) d_PA_readSetup_33 rfl (by first | rfl | exact nar_bI _) ?_
        unfold Y_setup
        dsimp only
        first | (rw [if_neg y2]; exact ⟨rfl, rfl⟩) | (rw [if_pos y1, if_neg y4]; exact ⟨rfl, rfl⟩) | (rw [if_pos y1, if_pos y3, y5]; exact ⟨rfl, rfl⟩)
