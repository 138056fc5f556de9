/-! THE MODEL'S PARSER: weights, shops, a setup -/
theorem MpOk.mo {h : Hp} {m st mi nu co wd : Nat} (hM : MpOk h m st mi nu co wd) : MoOk h m st := ⟨hM.1, hM.2.1, hM.2.2.1, hM.2.2.2.1⟩
theorem Y_weight_in {T : Nat → Int32} {n nw : Nat} {q : Ps} {B : Bu} (h : (Y_in 1 5000 q).1 = false) : Y_weight T n q B nw = (false, (Y_in 1 5000 q).2, B, nw) := by unfold Y_weight; rw [h]; rfl
theorem Y_weight_has {T : Nat → Int32} {n nw : Nat} {q : Ps} {B : Bu} (h : (Y_in 1 5000 q).1 = true) (h2 : P_has B.2.1 q.1.2.2.2 nw = true) : Y_weight T n q B nw = (false, Y_fail 3 q, B, nw) := by unfold Y_weight; rw [if_pos h, if_pos h2]
theorem Y_weight_full {T : Nat → Int32} {n nw : Nat} {q : Ps} {B : Bu} (h : (Y_in 1 5000 q).1 = true) (h2 : P_has B.2.1 q.1.2.2.2 nw = false) (h3 : ¬ nw < 6) : Y_weight T n q B nw = (false, Y_fail 4 q, B, nw) := by unfold Y_weight; rw [if_pos h, h2, if_neg (by decide), if_neg h3]
theorem Y_weight_ok {T : Nat → Int32} {n nw : Nat} {q : Ps} {B : Bu} (h : (Y_in 1 5000 q).1 = true) (h2 : P_has B.2.1 q.1.2.2.2 nw = false) (h3 : nw < 6) : Y_weight T n q B nw = (true, Y_next T n q, P_addW B nw q.1.2.2.2, nw + 1) := by unfold Y_weight; rw [if_pos h, h2, if_neg (by decide), if_pos h3]
section
variable {E : En} {M : Mt} {pc : Nat} {lv : List (Nat × Value)} {h : Hp} {k9 n9 : Nat} {P9 : Option Value → Hp → Prop} {X : String → Hp → Prop} {m st mi nu co wd n : Nat} {c0 G0 T Ti N K : Nat → Int32} {R : List (Nat × (Nat → Int32))} {cm p idx : Nat} {q : Ps} {w lo hi : Int32}
theorem g_ft (hh : mHh M = []) (hd : decode (mC M) pc = .ok (.invokevirtual idx, 3)) (hs : ST M idx m_MO_failsAtThis) (hM : MpOk h m st mi nu co wd) (nd : (m :: st :: mi :: nu :: co :: wd :: R.map Prod.fst).Nodup) (hn : n ≤ 500) (hc : c0 5 = nI n) (hT : ∀ j, j < n → Ti j = T j) (hq : TW T n q.1) (hv : VQ q w) (hp : p < 8) (hl : 0 ≤ lo.toInt) (hh6 : hi.toInt ≤ 65536)
    (kf : (Y_in lo hi q).1 = false → VQ (Y_in lo hi q).2 w → TW T n (Y_in lo hi q).2.1 → G E M (pc + 3) lv [.int 1] (wL h ((m, rQ c0 cm (Y_in lo hi q).2 w) :: (st, G0) :: (mi, Ti) :: (nu, N) :: (co, K) :: (wd, wdR) :: R)) k9 n9 P9 X)
    (kt : (Y_in lo hi q).1 = true → G E M (pc + 3) lv [.int 0] (wL h ((m, rQ c0 cm q w) :: (st, G0) :: (mi, Ti) :: (nu, u1 N p q.1.2.2.2) :: (co, K) :: (wd, wdR) :: R)) k9 n9 P9 X) :
    G E M pc lv [.int hi, .int lo, .int (nI p), .ref m] (wL h ((m, rQ c0 cm q w) :: (st, G0) :: (mi, Ti) :: (nu, N) :: (co, K) :: (wd, wdR) :: R)) k9 n9 P9 X := by
  refine g_cV1 (ci := 7) (As := [.int (nI p), .int lo, .int hi]) hd hh mv_MO_failsAtThis hs rfl rfl (by decide) rfl rfl (Nat.le_of_ble_eq_true rfl) hM.1 (cm_MO_failsAtThis hM nd hn hc hT hv hq.1.1 hp hl hh6) ?_
  cases hy : (Y_in lo hi q).1 with
  | false =>
    refine kf hy (fun z => ?_) (by rw [Y_in_f hy]; exact hq)
    rw [Y_in_f hy] at z ⊢
    exact hv z
  | true =>
    have ez := (Yin_t hy).1
    have k1 := kt hy
    rw [ez]
    exact k1
end
def Zr (G : Nat → Int32) (i : Nat) : Nat → Int32 := fun j => if j < i then 0 else G j
theorem Zr_0 (G : Nat → Int32) : Zr G 0 = G := funext fun j => if_neg (by omega)
theorem Zr_S (G : Nat → Int32) (i : Nat) : u1 (Zr G i) i 0 = Zr G (i + 1) := by
  funext j
  rw [u1_at]
  unfold Zr
  by_cases h : j = i
  · rw [if_pos h, if_pos (by omega)]
  · rw [if_neg h]
    by_cases h2 : j < i
    · rw [if_pos h2, if_pos (by omega)]
    · rw [if_neg h2, if_neg (by omega)]
def SetOk (B : Bu) (G G0 : Nat → Int32) : Prop := ∃ nw sc g, B.1 7 = nI nw ∧ nw ≤ 6 ∧ B.1 8 = nI sc ∧ sc ≤ 8 ∧ G = enc nw sc B g ∧ g 12 = P_money B.2.2 sc ∧ ∀ j, 140 ≤ j → g j = G0 j
theorem P_money_congr {s s' : Nat → Nat → Int32} : ∀ n, (∀ i, i < n → s i 15 = s' i 15) → P_money s n = P_money s' n
  | 0, _ => rfl
  | n + 1, h => by rw [P_money, P_money, P_money_congr n (fun i hi => h i (by omega)), h n (by omega)]
theorem lp_MO_hasWeight {E : En} {h : Hp} {m st nw sc : Nat} {c g : Nat → Int32} {B : Bu} {R : List (Nat × (Nat → Int32))} {v : Int32} (hM : MoOk h m st) (nd : (m :: st :: R.map Prod.fst).Nodup) (n6 : nw ≤ 6) (s8 : sc ≤ 8) (hw : B.1 7 = nI nw) : ∀ (d k : Nat), k ≤ nw → (∀ j, j < k → B.2.1 j ≠ v) → nw - k < d → G E m_MO_hasWeight 2 [(2, .int (nI k)), (0, .ref m), (1, .int v)] [] (wL h ((m, c) :: (st, enc nw sc B g) :: R)) 0 0 (fun v1 h1 => v1 = some (.int (bI (P_has B.2.1 v nw))) ∧ h1 = wL h ((m, c) :: (st, enc nw sc B g) :: R)) noX := by
  obtain ⟨k_m, r_m_0, k_st, l_st⟩ := id hM
  intro d
  induction d with
  | zero => intros; omega
  | succ d ih =>
    intro k hk ha hd
    refine g_iload_n (pc := 2) d_MO_hasWeight_2 rfl 0 rfl ?_
    refine g_aload_n (pc := 3) d_MO_hasWeight_3 rfl 1 rfl ?_
    refine g_getR (pc := 4) (ci := 7) (f := 0) (b := st) rfl r_m_0 d_MO_hasWeight_4 fl_MO_7 (by decide) k_m ?_
    refine g_bipush (pc := 7) (v := 7) d_MO_hasWeight_7 (by decide) ?_
    refine g_mI (pc := 9) (k := 7) d_MO_hasWeight_9 k_st l_st (by decide) nd ?_
    refine g_icmp_ge (pc := 10) (tgt := 34) d_MO_hasWeight_10 (by decide) (fun c_10 => ?_) (fun c_10 => ?_)
    · skip
      have e9 : k = nw := by rw [hw] at c_10; have := (nI_leI (by omega) (by omega)).mp c_10; omega
      refine g_iconst (pc := 34) (v := 0) d_MO_hasWeight_34 (by decide) ?_
      refine g_zret (pc := 35) d_MO_hasWeight_35 rfl (by first | rfl | exact nar_bI _) ?_
      rw [P_has_no (by rw [← e9]; exact ha)]
      exact ⟨rfl, rfl⟩
    · skip
      have e9 : k < nw := by rw [hw] at c_10; exact Nat.lt_of_not_le (fun z => c_10 ((nI_leI (by omega) (by omega)).mpr z))
      refine g_aload_n (pc := 13) d_MO_hasWeight_13 rfl 1 rfl ?_
      refine g_getR (pc := 14) (ci := 7) (f := 0) (b := st) rfl r_m_0 d_MO_hasWeight_14 fl_MO_7 (by decide) k_m ?_
      refine g_bipush (pc := 17) (v := 14) d_MO_hasWeight_17 (by decide) ?_
      refine g_iload_n (pc := 19) d_MO_hasWeight_19 rfl 0 rfl ?_
      refine g_iadd (pc := 20) d_MO_hasWeight_20 ?_
      refine g_mW (pc := 21) (j := k) d_MO_hasWeight_21 k_st l_st n6 (by first | assumption | omega | decide) nd ?_
      refine g_iload_n (pc := 22) d_MO_hasWeight_22 rfl 2 rfl ?_
      refine g_icmp_ne (pc := 23) (tgt := 28) d_MO_hasWeight_23 (by decide) (fun c_23 => ?_) (fun c_23 => ?_)
      · skip
        obtain ⟨x_1, hx_1⟩ : ∃ y : Int32, y = (nI k) + 1 := ⟨_, rfl⟩
        refine g_iinc (pc := 28) (w := 0) (v := x_1) (lv' := [(2, .int x_1), (0, .ref m), (1, .int v)]) d_MO_hasWeight_28 rfl (by rw [hx_1]; rfl) (by decide) rfl ?_
        refine g_goto (pc := 31) (tgt := 2) d_MO_hasWeight_31 (by decide) ?_
        have e8 : x_1 = nI (k + 1) := by rw [hx_1]; exact nI_1 _
        clear hx_1
        subst e8
        refine g_perm [0, 1, 2] rfl ?_
        exact ih (k + 1) (by omega) (fun j hj => (Nat.lt_or_eq_of_le (Nat.le_of_lt_succ hj)).elim (fun z => ha j z) (fun z => by rw [z]; exact c_23)) (by omega)
      · skip
        refine g_iconst (pc := 26) (v := 1) d_MO_hasWeight_26 (by decide) ?_
        refine g_zret (pc := 27) d_MO_hasWeight_27 rfl (by first | rfl | exact nar_bI _) ?_
        rw [P_has_of e9 c_23]
        exact ⟨rfl, rfl⟩
set_option maxRecDepth 20000 in
theorem cm_MO_hasWeight {E : En} {h : Hp} {m st nw sc : Nat} {c g : Nat → Int32} {B : Bu} {R : List (Nat × (Nat → Int32))} {v : Int32} (hM : MoOk h m st) (nd : (m :: st :: R.map Prod.fst).Nodup) (n6 : nw ≤ 6) (s8 : sc ≤ 8) (hw : B.1 7 = nI nw) : CR E m_MO_hasWeight [.ref m, .int v] (wL h ((m, c) :: (st, enc nw sc B g) :: R)) (some (.int (bI (P_has B.2.1 v nw)))) (wL h ((m, c) :: (st, enc nw sc B g) :: R)) := by
  refine ct_of rfl (by decide +kernel) (Nat.le_of_ble_eq_true rfl) ?_
  show G E m_MO_hasWeight 0 [(0, .ref m), (1, .int v)] [] (wL h ((m, c) :: (st, enc nw sc B g) :: R)) 0 0 _ noX
  obtain ⟨k_m, r_m_0, k_st, l_st⟩ := id hM
  refine g_iconst (pc := 0) (v := 0) d_MO_hasWeight_0 (by decide) ?_
  refine g_nameI (fun x_1 hx_1 => ?_)
  refine g_istore_n (pc := 1) (lv' := [(2, .int x_1), (0, .ref m), (1, .int v)]) d_MO_hasWeight_1 rfl (by decide) rfl ?_
  subst hx_1
  exact lp_MO_hasWeight hM nd n6 s8 hw (nw + 1) 0 (Nat.zero_le _) (fun j hj => by omega) (by omega)
set_option maxRecDepth 20000 in
theorem cm_MO_addWeight {E : En} {h : Hp} {m st nw sc : Nat} {c g : Nat → Int32} {B : Bu} {R : List (Nat × (Nat → Int32))} {v : Int32} (hM : MoOk h m st) (nd : (m :: st :: R.map Prod.fst).Nodup) (n6 : nw ≤ 6) (s8 : sc ≤ 8) (hw : B.1 7 = nI nw) (hn6 : nw < 6) : CR E m_MO_addWeight [.ref m, .int v] (wL h ((m, c) :: (st, enc nw sc B g) :: R)) (none) (wL h ((m, c) :: (st, enc (nw + 1) sc (P_addW B nw v) g) :: R)) := by
  refine ct_of rfl (by decide +kernel) (Nat.le_of_ble_eq_true rfl) ?_
  show G E m_MO_addWeight 0 [(0, .ref m), (1, .int v)] [] (wL h ((m, c) :: (st, enc nw sc B g) :: R)) 0 0 _ noX
  obtain ⟨k_m, r_m_0, k_st, l_st⟩ := id hM
  refine g_aload_n (pc := 0) d_MO_addWeight_0 rfl 0 rfl ?_
  refine g_getR (pc := 1) (ci := 7) (f := 0) (b := st) rfl r_m_0 d_MO_addWeight_1 fl_MO_7 (by decide) k_m ?_
  refine g_bipush (pc := 4) (v := 14) d_MO_addWeight_4 (by decide) ?_
  refine g_aload_n (pc := 6) d_MO_addWeight_6 rfl 0 rfl ?_
  refine g_getR (pc := 7) (ci := 7) (f := 0) (b := st) rfl r_m_0 d_MO_addWeight_7 fl_MO_7 (by decide) k_m ?_
  refine g_bipush (pc := 10) (v := 7) d_MO_addWeight_10 (by decide) ?_
  refine g_mI (pc := 12) (k := 7) d_MO_addWeight_12 k_st l_st (by decide) nd ?_
  refine g_iadd (pc := 13) d_MO_addWeight_13 ?_
  refine g_iload_n (pc := 14) d_MO_addWeight_14 rfl 1 rfl ?_
  refine g_top2 (y := nI (14 + nw)) (by rw [hw]; exact nI_add 14 nw) ?_
  refine g_lis1 (pc := 15) (j := 14 + nw) d_MO_addWeight_15 k_st l_st (by omega) (by decide) nd ?_
  refine g_aload_n (pc := 16) d_MO_addWeight_16 rfl 0 rfl ?_
  refine g_getR (pc := 17) (ci := 7) (f := 0) (b := st) rfl r_m_0 d_MO_addWeight_17 fl_MO_7 (by decide) k_m ?_
  refine g_bipush (pc := 20) (v := 7) d_MO_addWeight_20 (by decide) ?_
  refine g_dup2 (pc := 22) d_MO_addWeight_22 rfl rfl ?_
  refine g_lia1 (pc := 23) (j := 7) d_MO_addWeight_23 k_st l_st (by decide) (by decide) nd ?_
  refine g_top (y := nI nw) (by rw [u1_ne (by omega), enc_c (by omega)]; exact hw) ?_
  refine g_iconst (pc := 24) (v := 1) d_MO_addWeight_24 (by decide) ?_
  refine g_iadd (pc := 25) d_MO_addWeight_25 ?_
  refine g_top (nI_1 nw) ?_
  refine g_liE1 (pc := 26) (j := 7) (hg := enc_addW hn6) d_MO_addWeight_26 k_st l_st (by decide) (by decide) nd ?_
  refine g_vret (pc := 27) d_MO_addWeight_27 rfl ?_
  exact ⟨rfl, rfl⟩
set_option maxHeartbeats 4000000 in
theorem lp_MO_wbody {E : En} {h : Hp} {m st mi nu co wd n : Nat} {c0 g T Ti N K : Nat → Int32} {R : List (Nat × (Nat → Int32))} {cm : Nat} {q : Ps} {w : Int32} {B : Bu} {nw : Nat} {PP : Option Value → Hp → Prop} (hM : MpOk h m st mi nu co wd) (nd : (m :: st :: mi :: nu :: co :: wd :: R.map Prod.fst).Nodup) (hn : n ≤ 500) (hc : c0 5 = nI n) (hT : ∀ j, j < n → Ti j = T j) (hq : TW T n q.1) (hv : VQ q w) (hw : B.1 7 = nI nw) (n6 : nw ≤ 6)
    (kt : ∀ (w' : Int32) (N' : Nat → Int32), (Y_weight T n q B nw).1 = true → VQ (Y_weight T n q B nw).2.1 w' → TW T n (Y_weight T n q B nw).2.1.1 → nw < 6 → (Y_weight T n q B nw).2.2 = (P_addW B nw q.1.2.2.2, nw + 1) → G E m_MO_failsAtWeights 18 [(0, .ref m)] [] (wL h ((m, (rQ c0 cm (Y_weight T n q B nw).2.1 w')) :: (st, (enc (nw + 1) 0 (P_addW B nw q.1.2.2.2) g)) :: (mi, Ti) :: (nu, N') :: (co, K) :: (wd, wdR) :: R)) 0 0 PP noX)
    (kf : ∀ (w' : Int32) (N' : Nat → Int32), (Y_weight T n q B nw).1 = false → VQ (Y_weight T n q B nw).2.1 w' → TW T n (Y_weight T n q B nw).2.1.1 → (Y_weight T n q B nw).2.2 = (B, nw) → PP (some (.int 1)) (wL h ((m, (rQ c0 cm (Y_weight T n q B nw).2.1 w')) :: (st, (enc nw 0 B g)) :: (mi, Ti) :: (nu, N') :: (co, K) :: (wd, wdR) :: R))) :
    G E m_MO_failsAtWeights 36 [(0, .ref m)] [] (wL h ((m, (rQ c0 cm q w)) :: (st, (enc nw 0 B g)) :: (mi, Ti) :: (nu, N) :: (co, K) :: (wd, wdR) :: R)) 0 0 PP noX := by
  obtain ⟨k_m, r_m_0, k_st, l_st, r_m_4, k_mi, l_mi, r_m_12, k_nu, l_nu, r_m_13, k_co, l_co, r_m_18, k_wd, l_wd⟩ := id hM
  refine g_aload_n (pc := 36) d_MO_failsAtWeights_36 rfl 0 rfl ?_
  refine g_iconst (pc := 37) (v := 0) d_MO_failsAtWeights_37 (by decide) ?_
  refine g_iconst (pc := 38) (v := 1) d_MO_failsAtWeights_38 (by decide) ?_
  refine g_sipush (pc := 39) (v := 5000) d_MO_failsAtWeights_39 (by decide) ?_
  refine g_ft (pc := 42) (p := 0) (lo := 1) (hi := 5000) rfl d_MO_failsAtWeights_42 st_MO_failsAtWeights_205 hM nd hn hc hT hq hv (by decide) (by decide) (by decide) (fun y vq9 tw9 => ?_) (fun y => ?_)
  · skip
    refine g_if_eq (pc := 45) (tgt := 50) d_MO_failsAtWeights_45 (by decide) (fun c_45 => ?_) (fun c_45 => ?_)
    · exact absurd c_45 (by decide)
    · skip
      refine g_iconst (pc := 48) (v := 1) d_MO_failsAtWeights_48 (by decide) ?_
      refine g_zret (pc := 49) d_MO_failsAtWeights_49 rfl (by first | rfl | exact nar_bI _) ?_
      have ey := Y_weight_in (T := T) (n := n) (nw := nw) (B := B) y
      have k := kf w N
      rw [ey] at k
      exact k rfl vq9 tw9 rfl
  · skip
    refine g_if_eq (pc := 45) (tgt := 50) d_MO_failsAtWeights_45 (by decide) (fun c_45 => ?_) (fun c_45 => ?_)
    · skip
      refine g_aload_n (pc := 50) d_MO_failsAtWeights_50 rfl 0 rfl ?_
      refine g_aload_n (pc := 51) d_MO_failsAtWeights_51 rfl 0 rfl ?_
      refine g_getR (pc := 52) (ci := 7) (f := 12) (b := nu) rfl r_m_12 d_MO_failsAtWeights_52 fl_MO_25 (by decide) k_m ?_
      refine g_iconst (pc := 55) (v := 0) d_MO_failsAtWeights_55 (by decide) ?_
      refine g_lia3 (pc := 56) (j := 0) d_MO_failsAtWeights_56 k_nu l_nu (by first | assumption | omega | decide) (by decide) nd ?_
      refine g_top (y := q.1.2.2.2) rfl ?_
      refine g_cV1 (pc := 57) (ci := 7) (As := [.int _]) d_MO_failsAtWeights_57 rfl mv_MO_hasWeight st_MO_failsAtWeights_221 rfl rfl (by decide) rfl rfl (Nat.le_of_ble_eq_true rfl) k_m (cm_MO_hasWeight (nw := nw) (sc := 0) (B := B) (g := g) hM.mo nd n6 (by omega) hw) ?_
      refine g_if_eq (pc := 60) (tgt := 69) d_MO_failsAtWeights_60 (by decide) (fun c_60 => ?_) (fun c_60 => ?_)
      · skip
        have p9 : P_has B.2.1 q.1.2.2.2 nw = false := bI_0.mp c_60
        refine g_aload_n (pc := 69) d_MO_failsAtWeights_69 rfl 0 rfl ?_
        refine g_getR (pc := 70) (ci := 7) (f := 0) (b := st) rfl r_m_0 d_MO_failsAtWeights_70 fl_MO_7 (by decide) k_m ?_
        refine g_bipush (pc := 73) (v := 7) d_MO_failsAtWeights_73 (by decide) ?_
        refine g_lia1 (pc := 75) (j := 7) d_MO_failsAtWeights_75 k_st l_st (by decide) (by decide) nd ?_
        refine g_top (y := nI nw) (by rw [enc_c (by omega)]; exact hw) ?_
        refine g_bipush (pc := 76) (v := 6) d_MO_failsAtWeights_76 (by decide) ?_
        refine g_icmp_ne (pc := 78) (tgt := 87) d_MO_failsAtWeights_78 (by decide) (fun c_78 => ?_) (fun c_78 => ?_)
        · skip
          have h6 : nw < 6 := by
            have : nw ≠ 6 := fun z => c_78 (by rw [z]; rfl)
            omega
          refine g_aload_n (pc := 87) d_MO_failsAtWeights_87 rfl 0 rfl ?_
          refine g_aload_n (pc := 88) d_MO_failsAtWeights_88 rfl 0 rfl ?_
          refine g_getR (pc := 89) (ci := 7) (f := 12) (b := nu) rfl r_m_12 d_MO_failsAtWeights_89 fl_MO_25 (by decide) k_m ?_
          refine g_iconst (pc := 92) (v := 0) d_MO_failsAtWeights_92 (by decide) ?_
          refine g_lia3 (pc := 93) (j := 0) d_MO_failsAtWeights_93 k_nu l_nu (by first | assumption | omega | decide) (by decide) nd ?_
          refine g_top (y := q.1.2.2.2) rfl ?_
          refine g_cV0 (pc := 94) (ci := 7) (As := [.int _]) d_MO_failsAtWeights_94 rfl mv_MO_addWeight st_MO_failsAtWeights_38 rfl rfl (by decide) rfl rfl (Nat.le_of_ble_eq_true rfl) k_m (cm_MO_addWeight (nw := nw) (sc := 0) (B := B) (g := g) hM.mo nd n6 (by omega) hw h6) ?_
          refine g_aload_n (pc := 97) d_MO_failsAtWeights_97 rfl 0 rfl ?_
          refine g_cV0 (pc := 98) (ci := 7) (As := []) d_MO_failsAtWeights_98 rfl mv_MO_readToken st_MO_failsAtWeights_199 rfl rfl (by decide) rfl rfl (Nat.le_of_ble_eq_true rfl) k_m (cm_MO_readToken (nx := q.1.2.2.1) (k := q.1.1) (at9 := q.1.2.1) (v := w) (e6 := q.2.2.1) (e7 := q.2.2.2) (cm := cm) hM nd hn hc hT hq.1.2.2) ?_
          refine g_goto (pc := 101) (tgt := 18) d_MO_failsAtWeights_101 (by decide) ?_
          have ey := Y_weight_ok (T := T) (n := n) y p9 h6
          have k := kt (Z_val T n q.1.2.2.1 w) (u1 N 0 q.1.2.2.2)
          rw [ey] at k
          exact k rfl VQ_tok (TW_nx hq.1) h6 rfl
        · skip
          have h6 : ¬ nw < 6 := by have := (nI_eq (b := 6) (by omega) (by omega)).mp c_78; omega
          refine g_aload_n (pc := 81) d_MO_failsAtWeights_81 rfl 0 rfl ?_
          refine g_iconst (pc := 82) (v := 4) d_MO_failsAtWeights_82 (by decide) ?_
          refine g_cV1 (pc := 83) (ci := 7) (As := [.int _]) d_MO_failsAtWeights_83 rfl mv_MO_fails st_MO_failsAtWeights_202 rfl rfl (by decide) rfl rfl (Nat.le_of_ble_eq_true rfl) k_m (cm_MO_fails (q := q) (w := w) (cm := cm) hM nd hn hc hT) ?_
          refine g_zret (pc := 86) d_MO_failsAtWeights_86 rfl (by first | rfl | exact nar_bI _) ?_
          have ey := Y_weight_full (T := T) (n := n) y p9 h6
          have k := kf w (u1 N 0 q.1.2.2.2)
          rw [ey] at k
          exact k rfl hv hq rfl
      · skip
        have p9 : P_has B.2.1 q.1.2.2.2 nw = true := bI_n0 c_60
        refine g_aload_n (pc := 63) d_MO_failsAtWeights_63 rfl 0 rfl ?_
        refine g_iconst (pc := 64) (v := 3) d_MO_failsAtWeights_64 (by decide) ?_
        refine g_cV1 (pc := 65) (ci := 7) (As := [.int _]) d_MO_failsAtWeights_65 rfl mv_MO_fails st_MO_failsAtWeights_202 rfl rfl (by decide) rfl rfl (Nat.le_of_ble_eq_true rfl) k_m (cm_MO_fails (q := q) (w := w) (cm := cm) hM nd hn hc hT) ?_
        refine g_zret (pc := 68) d_MO_failsAtWeights_68 rfl (by first | rfl | exact nar_bI _) ?_
        have ey := Y_weight_has (T := T) (n := n) y p9
        have k := kf w (u1 N 0 q.1.2.2.2)
        rw [ey] at k
        exact k rfl hv hq rfl
    · exact (c_45 (by decide)).elim
set_option maxHeartbeats 4000000 in
theorem lp_MO_wts {E : En} {h : Hp} {m st mi nu co wd n : Nat} {c0 g T Ti K : Nat → Int32} {R : List (Nat × (Nat → Int32))} {cm : Nat} (hM : MpOk h m st mi nu co wd) (nd : (m :: st :: mi :: nu :: co :: wd :: R.map Prod.fst).Nodup) (hn : n ≤ 500) (hc : c0 5 = nI n) (hT : ∀ j, j < n → Ti j = T j) : ∀ (d : Nat) (q : Ps) (w : Int32) (B : Bu) (nw : Nat) (N : Nat → Int32), nw + d = 7 → 1 ≤ nw → nw ≤ 6 → B.1 7 = nI nw → TW T n q.1 → VQ q w → G E m_MO_failsAtWeights 18 [(0, .ref m)] [] (wL h ((m, (rQ c0 cm q w)) :: (st, (enc nw 0 B g)) :: (mi, Ti) :: (nu, N) :: (co, K) :: (wd, wdR) :: R)) 0 0 (fun v1 h9 => ∃ z : Int32 × (Nat → Int32) × (Nat → Int32), (VQ (Y_wl T n d q B nw).2.1 z.1 ∧ TW T n (Y_wl T n d q B nw).2.1.1 ∧ (∀ j, 140 ≤ j → z.2.2 j = g j) ∧ ((Y_wl T n d q B nw).1 = true → z.2.2 = enc (Y_wl T n d q B nw).2.2.2 0 (Y_wl T n d q B nw).2.2.1 g)) ∧ v1 = some (.int (bI (!(Y_wl T n d q B nw).1))) ∧ h9 = wL h ((m, (rQ c0 cm (Y_wl T n d q B nw).2.1 z.1)) :: (st, z.2.2) :: (mi, Ti) :: (nu, z.2.1) :: (co, K) :: (wd, wdR) :: R)) noX := by
  obtain ⟨k_m, r_m_0, k_st, l_st, r_m_4, k_mi, l_mi, r_m_12, k_nu, l_nu, r_m_13, k_co, l_co, r_m_18, k_wd, l_wd⟩ := id hM
  intro d
  induction d with
  | zero => intros; omega
  | succ d ih =>
    intro q w B nw N hd h1 n6 hw hq hv
    refine g_aload_n (pc := 18) d_MO_failsAtWeights_18 rfl 0 rfl ?_
    refine g_getR (pc := 19) (ci := 7) (f := 0) (b := st) rfl r_m_0 d_MO_failsAtWeights_19 fl_MO_7 (by decide) k_m ?_
    refine g_bipush (pc := 22) (v := 7) d_MO_failsAtWeights_22 (by decide) ?_
    refine g_lia1 (pc := 24) (j := 7) d_MO_failsAtWeights_24 k_st l_st (by decide) (by decide) nd ?_
    refine g_top (y := nI nw) (by rw [enc_c (by omega)]; exact hw) ?_
    refine g_if_eq (pc := 25) (tgt := 36) d_MO_failsAtWeights_25 (by decide) (fun c_25 => ?_) (fun c_25 => ?_)
    · exact absurd c_25 (nI_ne0 (by omega) (by omega))
    · skip
      refine g_aload_n (pc := 28) d_MO_failsAtWeights_28 rfl 0 rfl ?_
      refine g_lgI0 (pc := 29) (ci := 7) (f := 9) rfl d_MO_failsAtWeights_29 fl_MO_184 (by decide) k_m nd ?_
      refine g_top (y := nI q.1.1) rfl ?_
      refine g_iconst (pc := 32) (v := 2) d_MO_failsAtWeights_32 (by decide) ?_
      refine g_icmp_ne (pc := 33) (tgt := 104) d_MO_failsAtWeights_33 (by decide) (fun c_33 => ?_) (fun c_33 => ?_)
      · skip
        have e2 : ¬ q.1.1 = 2 := fun z => c_33 (by rw [z]; rfl)
        refine g_aload_n (pc := 104) d_MO_failsAtWeights_104 rfl 0 rfl ?_
        refine g_cVx (pc := 105) (ci := 7) (As := []) d_MO_failsAtWeights_105 rfl mv_MO_failsAtEnd st_MO_failsAtWeights_208 rfl rfl (by decide) rfl rfl (Nat.le_of_ble_eq_true rfl) k_m (ce_MO_failsAtEnd (q := q) (w := w) hM nd hn hc hT hq hv) (fun z hz => ?_)
        refine g_zret (pc := 108) d_MO_failsAtWeights_108 rfl (by first | rfl | exact nar_bI _) ?_
        have ey : Y_wl T n (d + 1) q B nw = ((Y_semi T n q).1, (Y_semi T n q).2, B, nw) := by rw [Y_wl, if_neg e2]
        rw [ey]
        exact ⟨(z, N, enc nw 0 B g), ⟨hz.1, hz.2, fun j hj => enc_out n6 (by omega) hj, fun _ => rfl⟩, rfl, rfl⟩
      · skip
        have e2 : q.1.1 = 2 := (nI_eq (b := 2) (by have := hq.1.1; omega) (by omega)).mp c_33
        refine lp_MO_wbody hM nd hn hc hT hq hv hw n6 (fun w' N' y vq tw h6 e => ?_) (fun w' N' y vq tw e => ?_)
        · have ey : Y_wl T n (d + 1) q B nw = Y_wl T n d (Y_weight T n q B nw).2.1 (P_addW B nw q.1.2.2.2) (nw + 1) := by rw [Y_wl, if_pos e2, if_pos y, e]
          rw [ey]
          exact ih _ w' (P_addW B nw q.1.2.2.2) (nw + 1) N' (by omega) (by omega) (by omega) rfl tw vq
        · have ey : Y_wl T n (d + 1) q B nw = (false, (Y_weight T n q B nw).2) := by rw [Y_wl, if_pos e2, if_neg (by rw [y]; decide)]
          rw [ey]
          exact ⟨(w', N', enc nw 0 B g), ⟨vq, tw, fun j hj => enc_out n6 (by omega) hj, fun z => by cases z⟩, rfl, rfl⟩
set_option maxRecDepth 20000 in
set_option maxHeartbeats 4000000 in
theorem ce_MO_failsAtWeights {E : En} {h : Hp} {m st mi nu co wd n : Nat} {c0 g T Ti N K : Nat → Int32} {R : List (Nat × (Nat → Int32))} {cm : Nat} {q : Ps} {w : Int32} {B : Bu} (hM : MpOk h m st mi nu co wd) (nd : (m :: st :: mi :: nu :: co :: wd :: R.map Prod.fst).Nodup) (hn : n ≤ 500) (hc : c0 5 = nI n) (hT : ∀ j, j < n → Ti j = T j) (hq : TW T n q.1) (hv : VQ q w) (hw : B.1 7 = nI 0) : CT E m_MO_failsAtWeights [.ref m] (wL h ((m, (rQ c0 cm q w)) :: (st, (enc 0 0 B g)) :: (mi, Ti) :: (nu, N) :: (co, K) :: (wd, wdR) :: R)) 0 0 (fun v1 h9 => ∃ z : Int32 × (Nat → Int32) × (Nat → Int32), (VQ (Y_weights T n q B 0).2.1 z.1 ∧ TW T n (Y_weights T n q B 0).2.1.1 ∧ (∀ j, 140 ≤ j → z.2.2 j = g j) ∧ ((Y_weights T n q B 0).1 = true → z.2.2 = enc (Y_weights T n q B 0).2.2.2 0 (Y_weights T n q B 0).2.2.1 g)) ∧ v1 = some (.int (bI (!(Y_weights T n q B 0).1))) ∧ h9 = wL h ((m, (rQ c0 cm (Y_weights T n q B 0).2.1 z.1)) :: (st, z.2.2) :: (mi, Ti) :: (nu, z.2.1) :: (co, K) :: (wd, wdR) :: R)) noX := by
  refine ct_of rfl (by decide +kernel) (Nat.le_of_ble_eq_true rfl) ?_
  show G E m_MO_failsAtWeights 0 [(0, .ref m)] [] (wL h ((m, (rQ c0 cm q w)) :: (st, (enc 0 0 B g)) :: (mi, Ti) :: (nu, N) :: (co, K) :: (wd, wdR) :: R)) 0 0 _ noX
  obtain ⟨k_m, r_m_0, k_st, l_st, r_m_4, k_mi, l_mi, r_m_12, k_nu, l_nu, r_m_13, k_co, l_co, r_m_18, k_wd, l_wd⟩ := id hM
  refine g_aload_n (pc := 0) d_MO_failsAtWeights_0 rfl 0 rfl ?_
  refine g_cV1 (pc := 1) (ci := 7) (As := []) d_MO_failsAtWeights_1 rfl mv_MO_wordOf st_MO_failsAtWeights_211 rfl rfl (by decide) rfl rfl (Nat.le_of_ble_eq_true rfl) k_m (cm_MO_wordOf hM nd hn hc hT hq) ?_
  refine g_iconst (pc := 4) (v := 1) d_MO_failsAtWeights_4 (by decide) ?_
  refine g_icmp_eq (pc := 5) (tgt := 14) d_MO_failsAtWeights_5 (by decide) (fun c_5 => ?_) (fun c_5 => ?_)
  · skip
    have hw1 : Y_isw T q.1 2 = true := (Z_word_iff (w0 := 1) (by omega)).mp ((nI_eq (b := 1) (by have := Z_word_le (T := T) (t := q.1) 9 0 rfl; omega) (by omega)).mp c_5)
    refine g_aload_n (pc := 14) d_MO_failsAtWeights_14 rfl 0 rfl ?_
    refine g_cV0 (pc := 15) (ci := 7) (As := []) d_MO_failsAtWeights_15 rfl mv_MO_readToken st_MO_failsAtWeights_199 rfl rfl (by decide) rfl rfl (Nat.le_of_ble_eq_true rfl) k_m (cm_MO_readToken hM nd hn hc hT hq.1.2.2) ?_
    refine g_aload_n (pc := 18) d_MO_failsAtWeights_18 rfl 0 rfl ?_
    refine g_getR (pc := 19) (ci := 7) (f := 0) (b := st) rfl r_m_0 d_MO_failsAtWeights_19 fl_MO_7 (by decide) k_m ?_
    refine g_bipush (pc := 22) (v := 7) d_MO_failsAtWeights_22 (by decide) ?_
    refine g_lia1 (pc := 24) (j := 7) d_MO_failsAtWeights_24 k_st l_st (by decide) (by decide) nd ?_
    refine g_top (y := nI 0) (by rw [enc_c (by omega)]; exact hw) ?_
    refine g_if_eq (pc := 25) (tgt := 36) d_MO_failsAtWeights_25 (by decide) (fun c_25 => ?_) (fun c_25 => ?_)
    · skip
      have ey : Y_word T n 2 q = (true, Y_next T n q) := by unfold Y_word; rw [if_pos hw1]
      refine lp_MO_wbody (q := Y_next T n q) (w := Z_val T n q.1.2.2.1 w) (B := B) (nw := 0) hM nd hn hc hT (TW_nx hq.1) VQ_tok hw (by omega) (fun w' N' y vq tw h6 e => ?_) (fun w' N' y vq tw e => ?_)
      · have ew : Y_weights T n q B 0 = Y_wl T n 6 (Y_weight T n (Y_next T n q) B 0).2.1 (P_addW B 0 (Y_next T n q).1.2.2.2) 1 := by
          unfold Y_weights
          rw [ey, if_pos rfl]
          dsimp only
          rw [if_pos y, e]
        rw [ew]
        exact lp_MO_wts hM nd hn hc hT 6 _ w' (P_addW B 0 (Y_next T n q).1.2.2.2) 1 N' (by omega) (by omega) (by omega) rfl tw vq
      · have ew : Y_weights T n q B 0 = (false, (Y_weight T n (Y_next T n q) B 0).2) := by
          unfold Y_weights
          rw [ey, if_pos rfl]
          dsimp only
          rw [if_neg (by rw [y]; decide)]
        rw [ew]
        exact ⟨(w', N', enc 0 0 B g), ⟨vq, tw, fun j hj => enc_out (by omega) (by omega) hj, fun z => by cases z⟩, rfl, rfl⟩
    · exact (c_25 rfl).elim
  · skip
    have hw1 : ¬ Y_isw T q.1 2 = true := fun z => c_5 (by rw [(Z_word_iff (w0 := 1) (by omega)).mpr z]; rfl)
    refine g_aload_n (pc := 8) d_MO_failsAtWeights_8 rfl 0 rfl ?_
    refine g_iconst (pc := 9) (v := 1) d_MO_failsAtWeights_9 (by decide) ?_
    refine g_cV1 (pc := 10) (ci := 7) (As := [.int _]) d_MO_failsAtWeights_10 rfl mv_MO_fails st_MO_failsAtWeights_202 rfl rfl (by decide) rfl rfl (Nat.le_of_ble_eq_true rfl) k_m (cm_MO_fails hM nd hn hc hT) ?_
    refine g_zret (pc := 13) d_MO_failsAtWeights_13 rfl (by first | rfl | exact nar_bI _) ?_
    have ey : Y_word T n 2 q = (false, Y_fail 1 q) := by unfold Y_word; rw [if_neg hw1]
    have ew : Y_weights T n q B 0 = (false, Y_fail 1 q, B, 0) := by unfold Y_weights; rw [ey]; rfl
    rw [ew]
    exact ⟨(w, N, enc 0 0 B g), ⟨hv, hq, fun j hj => enc_out (by omega) (by omega) hj, fun z => by cases z⟩, rfl, rfl⟩
set_option maxRecDepth 20000 in
theorem cr_MO_put {E : En} {h : Hp} {m st : Nat} {c G0 : Nat → Int32} {R : List (Nat × (Nat → Int32))} {i k : Nat} {v : Int32} (hM : MoOk h m st) (nd : (m :: st :: R.map Prod.fst).Nodup) (hi : i < 8) (hk : k < 15) : CR E m_MO_put [.ref m, .int (nI i), .int (nI k), .int v] (wL h ((m, c) :: (st, G0) :: R)) (none) (wL h ((m, c) :: (st, u1 G0 (20 + 15 * i + k) v) :: R)) := by
  refine ct_of rfl (by decide +kernel) (Nat.le_of_ble_eq_true rfl) ?_
  show G E m_MO_put 0 [(0, .ref m), (1, .int (nI i)), (2, .int (nI k)), (3, .int v)] [] (wL h ((m, c) :: (st, G0) :: R)) 0 0 _ noX
  obtain ⟨k_m, r_m_0, k_st, l_st⟩ := id hM
  refine g_aload_n (pc := 0) d_MO_put_0 rfl 0 rfl ?_
  refine g_getR (pc := 1) (ci := 7) (f := 0) (b := st) rfl r_m_0 d_MO_put_1 fl_MO_7 (by decide) k_m ?_
  refine g_bipush (pc := 4) (v := 20) d_MO_put_4 (by decide) ?_
  refine g_bipush (pc := 6) (v := 15) d_MO_put_6 (by decide) ?_
  refine g_iload_n (pc := 8) d_MO_put_8 rfl 1 rfl ?_
  refine g_imul (pc := 9) d_MO_put_9 ?_
  refine g_iadd (pc := 10) d_MO_put_10 ?_
  refine g_iload_n (pc := 11) d_MO_put_11 rfl 2 rfl ?_
  refine g_iadd (pc := 12) d_MO_put_12 ?_
  refine g_iload_n (pc := 13) d_MO_put_13 rfl 3 rfl ?_
  refine g_top2 (y := nI (20 + 15 * i + k)) (by show nI 20 + nI 15 * nI i + nI k = _; rw [nI_mul, nI_add, nI_add]) ?_
  refine g_lis1 (pc := 14) (j := (20 + 15 * i + k)) d_MO_put_14 k_st l_st (by first | assumption | omega | decide) (by decide) nd ?_
  refine g_vret (pc := 15) d_MO_put_15 rfl ?_
  exact ⟨rfl, rfl⟩
theorem lp_MO_addShop {E : En} {h : Hp} {nw sc : Nat} {B : Bu} {m st mi nu co wd : Nat} {c g Ti N K : Nat → Int32} {R : List (Nat × (Nat → Int32))} (hM : MpOk h m st mi nu co wd) (nd : (m :: st :: mi :: nu :: co :: wd :: R.map Prod.fst).Nodup) (hs : B.1 8 = nI sc) (s8 : sc < 8) {PP : Option Value → Hp → Prop} (kk : G E m_MO_addShop 34 [(2, .int (nI 8)), (1, .int (nI sc)), (0, .ref m)] [] (wL h ((m, c) :: (st, (addG nw sc B g N 8)) :: (mi, Ti) :: (nu, N) :: (co, K) :: (wd, wdR) :: R)) 0 0 PP noX) : ∀ (d i : Nat), i ≤ 8 → 8 - i < d → G E m_MO_addShop 10 [(2, .int (nI i)), (1, .int (nI sc)), (0, .ref m)] [] (wL h ((m, c) :: (st, (addG nw sc B g N i)) :: (mi, Ti) :: (nu, N) :: (co, K) :: (wd, wdR) :: R)) 0 0 PP noX := by
  obtain ⟨k_m, r_m_0, k_st, l_st, r_m_4, k_mi, l_mi, r_m_12, k_nu, l_nu, r_m_13, k_co, l_co, r_m_18, k_wd, l_wd⟩ := id hM
  intro d
  induction d with
  | zero => intros; omega
  | succ d ih =>
    intro i hi hd
    refine g_iload_n (pc := 10) d_MO_addShop_10 rfl 0 rfl ?_
    refine g_bipush (pc := 11) (v := 7) d_MO_addShop_11 (by decide) ?_
    refine g_icmp_gt (pc := 13) (tgt := 34) d_MO_addShop_13 (by decide) (fun c_13 => ?_) (fun c_13 => ?_)
    · skip
      have e9 : i = 8 := by have := (nI_ltI (a := 7) (by omega) (by omega)).mp c_13; omega
      rw [e9]
      exact kk
    · skip
      have e9 : i < 8 := by have := mt (nI_ltI (a := 7) (b := i) (by omega) (by omega)).mpr c_13; omega
      refine g_aload_n (pc := 16) d_MO_addShop_16 rfl 2 rfl ?_
      refine g_iload_n (pc := 17) d_MO_addShop_17 rfl 1 rfl ?_
      refine g_iload_n (pc := 18) d_MO_addShop_18 rfl 0 rfl ?_
      refine g_aload_n (pc := 19) d_MO_addShop_19 rfl 2 rfl ?_
      refine g_getR (pc := 20) (ci := 7) (f := 12) (b := nu) rfl r_m_12 d_MO_addShop_20 fl_MO_25 (by decide) k_m ?_
      refine g_iload_n (pc := 23) d_MO_addShop_23 rfl 0 rfl ?_
      refine g_lia3 (pc := 24) (j := i) d_MO_addShop_24 k_nu l_nu (by first | assumption | omega | decide) (by decide) nd ?_
      refine g_cV0 (pc := 25) (ci := 7) (As := [.int _, .int _, .int _]) d_MO_addShop_25 rfl mv_MO_put st_MO_addShop_65 rfl rfl (by decide) rfl rfl (Nat.le_of_ble_eq_true rfl) k_m (cr_MO_put (i := sc) (k := i) hM.mo nd s8 (by omega)) ?_
      rw [addG_S]
      obtain ⟨x_1, hx_1⟩ : ∃ y : Int32, y = (nI i) + 1 := ⟨_, rfl⟩
      refine g_iinc (pc := 28) (w := 0) (v := x_1) (lv' := [(2, .int x_1), (1, .int (nI sc)), (0, .ref m)]) d_MO_addShop_28 rfl (by rw [hx_1]; rfl) (by decide) rfl ?_
      refine g_goto (pc := 31) (tgt := 10) d_MO_addShop_31 (by decide) ?_
      have e8 : x_1 = nI (i + 1) := by rw [hx_1]; exact nI_1 _
      clear hx_1
      subst e8
      exact ih (i + 1) (by omega) (by omega)
set_option maxRecDepth 20000 in
theorem cm_MO_addShop {E : En} {h : Hp} {nw sc : Nat} {B : Bu} {m st mi nu co wd : Nat} {c g Ti N K : Nat → Int32} {R : List (Nat × (Nat → Int32))} (hM : MpOk h m st mi nu co wd) (nd : (m :: st :: mi :: nu :: co :: wd :: R.map Prod.fst).Nodup) (hs : B.1 8 = nI sc) (s8 : sc < 8) : CR E m_MO_addShop [.ref m] (wL h ((m, c) :: (st, (enc nw sc B g)) :: (mi, Ti) :: (nu, N) :: (co, K) :: (wd, wdR) :: R)) (none) (wL h ((m, c) :: (st, (u1 (u1 (u1 (u1 (addG nw sc B g N 8) (20 + 15 * sc + 10) (-1)) (20 + 15 * sc + 12) 1) 12 (g 12 + N 0)) 8 (nI (sc + 1)))) :: (mi, Ti) :: (nu, N) :: (co, K) :: (wd, wdR) :: R)) := by
  refine ct_of rfl (by decide +kernel) (Nat.le_of_ble_eq_true rfl) ?_
  show G E m_MO_addShop 0 [(0, .ref m)] [] (wL h ((m, c) :: (st, (enc nw sc B g)) :: (mi, Ti) :: (nu, N) :: (co, K) :: (wd, wdR) :: R)) 0 0 _ noX
  obtain ⟨k_m, r_m_0, k_st, l_st, r_m_4, k_mi, l_mi, r_m_12, k_nu, l_nu, r_m_13, k_co, l_co, r_m_18, k_wd, l_wd⟩ := id hM
  refine g_aload_n (pc := 0) d_MO_addShop_0 rfl 0 rfl ?_
  refine g_getR (pc := 1) (ci := 7) (f := 0) (b := st) rfl r_m_0 d_MO_addShop_1 fl_MO_7 (by decide) k_m ?_
  refine g_bipush (pc := 4) (v := 8) d_MO_addShop_4 (by decide) ?_
  refine g_lia1 (pc := 6) (j := 8) d_MO_addShop_6 k_st l_st (by decide) (by decide) nd ?_
  refine g_top (y := nI sc) (by rw [enc_c (by omega)]; exact hs) ?_
  refine g_istore_n (pc := 7) (lv' := [(1, .int (nI sc)), (0, .ref m)]) d_MO_addShop_7 rfl (by decide) rfl ?_
  refine g_iconst (pc := 8) (v := 0) d_MO_addShop_8 (by decide) ?_
  refine g_nameI (fun x_1 hx_1 => ?_)
  refine g_istore_n (pc := 9) (lv' := [(2, .int x_1), (1, .int (nI sc)), (0, .ref m)]) d_MO_addShop_9 rfl (by decide) rfl ?_
  subst hx_1
  refine g_h (h' := wL h ((m, c) :: (st, (addG nw sc B g N 0)) :: (mi, Ti) :: (nu, N) :: (co, K) :: (wd, wdR) :: R)) (by rw [addG_0]) ?_
  refine lp_MO_addShop hM nd hs s8 ?_ 9 0 (by omega) (by omega)
  refine g_aload_n (pc := 34) d_MO_addShop_34 rfl 2 rfl ?_
  refine g_iload_n (pc := 35) d_MO_addShop_35 rfl 1 rfl ?_
  refine g_bipush (pc := 36) (v := 10) d_MO_addShop_36 (by decide) ?_
  refine g_iconst (pc := 38) (v := (-1)) d_MO_addShop_38 (by decide) ?_
  refine g_cV0 (pc := 39) (ci := 7) (As := [.int _, .int _, .int _]) d_MO_addShop_39 rfl mv_MO_put st_MO_addShop_65 rfl rfl (by decide) rfl rfl (Nat.le_of_ble_eq_true rfl) k_m (cr_MO_put (i := sc) (k := 10) hM.mo nd s8 (by omega)) ?_
  refine g_aload_n (pc := 42) d_MO_addShop_42 rfl 2 rfl ?_
  refine g_iload_n (pc := 43) d_MO_addShop_43 rfl 1 rfl ?_
  refine g_bipush (pc := 44) (v := 12) d_MO_addShop_44 (by decide) ?_
  refine g_iconst (pc := 46) (v := 1) d_MO_addShop_46 (by decide) ?_
  refine g_cV0 (pc := 47) (ci := 7) (As := [.int _, .int _, .int _]) d_MO_addShop_47 rfl mv_MO_put st_MO_addShop_65 rfl rfl (by decide) rfl rfl (Nat.le_of_ble_eq_true rfl) k_m (cr_MO_put (i := sc) (k := 12) hM.mo nd s8 (by omega)) ?_
  refine g_aload_n (pc := 50) d_MO_addShop_50 rfl 2 rfl ?_
  refine g_getR (pc := 51) (ci := 7) (f := 0) (b := st) rfl r_m_0 d_MO_addShop_51 fl_MO_7 (by decide) k_m ?_
  refine g_bipush (pc := 54) (v := 12) d_MO_addShop_54 (by decide) ?_
  refine g_dup2 (pc := 56) d_MO_addShop_56 rfl rfl ?_
  refine g_lia1 (pc := 57) (j := 12) d_MO_addShop_57 k_st l_st (by decide) (by decide) nd ?_
  refine g_top (y := g 12) (by rw [u1_ne (by omega), u1_ne (by omega), show addG nw sc B g N 8 12 = enc nw sc B g 12 from if_neg (by omega)]; exact enc_12) ?_
  refine g_aload_n (pc := 58) d_MO_addShop_58 rfl 2 rfl ?_
  refine g_getR (pc := 59) (ci := 7) (f := 12) (b := nu) rfl r_m_12 d_MO_addShop_59 fl_MO_25 (by decide) k_m ?_
  refine g_iconst (pc := 62) (v := 0) d_MO_addShop_62 (by decide) ?_
  refine g_lia3 (pc := 63) (j := 0) d_MO_addShop_63 k_nu l_nu (by first | assumption | omega | decide) (by decide) nd ?_
  refine g_iadd (pc := 64) d_MO_addShop_64 ?_
  refine g_lis1 (pc := 65) (j := 12) d_MO_addShop_65 k_st l_st (by decide) (by decide) nd ?_
  refine g_aload_n (pc := 66) d_MO_addShop_66 rfl 2 rfl ?_
  refine g_getR (pc := 67) (ci := 7) (f := 0) (b := st) rfl r_m_0 d_MO_addShop_67 fl_MO_7 (by decide) k_m ?_
  refine g_bipush (pc := 70) (v := 8) d_MO_addShop_70 (by decide) ?_
  refine g_dup2 (pc := 72) d_MO_addShop_72 rfl rfl ?_
  refine g_lia1 (pc := 73) (j := 8) d_MO_addShop_73 k_st l_st (by decide) (by decide) nd ?_
  refine g_top (y := nI sc) (by rw [u1_ne (by omega), u1_ne (by omega), u1_ne (by omega), show addG nw sc B g N 8 8 = enc nw sc B g 8 from if_neg (by omega)]; rw [enc_c (by omega)]; exact hs) ?_
  refine g_iconst (pc := 74) (v := 1) d_MO_addShop_74 (by decide) ?_
  refine g_iadd (pc := 75) d_MO_addShop_75 ?_
  refine g_top (nI_1 sc) ?_
  refine g_lis1 (pc := 76) (j := 8) d_MO_addShop_76 k_st l_st (by decide) (by decide) nd ?_
  refine g_vret (pc := 77) d_MO_addShop_77 rfl ?_
  exact ⟨rfl, rfl⟩
set_option maxRecDepth 20000 in
set_option maxHeartbeats 4000000 in
theorem ce_MO_failsAtShop {E : En} {h : Hp} {nw sc : Nat} {m st mi nu co wd n : Nat} {c0 g T Ti N K : Nat → Int32} {R : List (Nat × (Nat → Int32))} {cm : Nat} {q : Ps} {w : Int32} {V : Nat → Int32} {B : Bu} (hM : MpOk h m st mi nu co wd) (nd : (m :: st :: mi :: nu :: co :: wd :: R.map Prod.fst).Nodup) (hn : n ≤ 500) (hc : c0 5 = nI n) (hT : ∀ j, j < n → Ti j = T j) (hq : TW T n q.1) (hv : VQ q w) (n6 : nw ≤ 6) (hs : B.1 8 = nI sc) (s8 : sc < 8) (hz0 : ∀ j, 20 + 15 * sc ≤ j → j < 140 → g j = 0) : CT E m_MO_failsAtShop [.ref m] (wL h ((m, (rQ c0 cm q w)) :: (st, (enc nw sc B g)) :: (mi, Ti) :: (nu, N) :: (co, K) :: (wd, wdR) :: R)) 0 0 (fun v1 h9 => ∃ z : Int32 × (Nat → Int32) × (Nat → Int32), (VQ (Y_shop1 T n sc q V B).2.1 z.1 ∧ TW T n (Y_shop1 T n sc q V B).2.1.1 ∧ (∀ j, 140 ≤ j → z.2.2 j = g j) ∧ ((Y_shop1 T n sc q V B).1 = true → z.2.2 = enc nw (sc + 1) (Y_shop1 T n sc q V B).2.2.2 (u1 g 12 (g 12 + (Y_shop1 T n sc q V B).2.2.2.2.2 sc 15)))) ∧ v1 = some (.int (bI (!(Y_shop1 T n sc q V B).1))) ∧ h9 = wL h ((m, (rQ c0 cm (Y_shop1 T n sc q V B).2.1 z.1)) :: (st, z.2.2) :: (mi, Ti) :: (nu, z.2.1) :: (co, K) :: (wd, wdR) :: R)) noX := by
  refine ct_of rfl (by decide +kernel) (Nat.le_of_ble_eq_true rfl) ?_
  show G E m_MO_failsAtShop 0 [(0, .ref m)] [] (wL h ((m, (rQ c0 cm q w)) :: (st, (enc nw sc B g)) :: (mi, Ti) :: (nu, N) :: (co, K) :: (wd, wdR) :: R)) 0 0 _ noX
  obtain ⟨k_m, r_m_0, k_st, l_st, r_m_4, k_mi, l_mi, r_m_12, k_nu, l_nu, r_m_13, k_co, l_co, r_m_18, k_wd, l_wd⟩ := id hM
  refine g_aload_n (pc := 0) d_MO_failsAtShop_0 rfl 0 rfl ?_
  refine g_cV1 (pc := 1) (ci := 7) (As := []) d_MO_failsAtShop_1 rfl mv_MO_wordOf st_MO_failsAtShop_211 rfl rfl (by decide) rfl rfl (Nat.le_of_ble_eq_true rfl) k_m (cm_MO_wordOf hM nd hn hc hT hq) ?_
  refine g_iconst (pc := 4) (v := 2) d_MO_failsAtShop_4 (by decide) ?_
  refine g_icmp_eq (pc := 5) (tgt := 14) d_MO_failsAtShop_5 (by decide) (fun c_5 => ?_) (fun c_5 => ?_)
  · skip
    have hw1 : Y_isw T q.1 3 = true := (Z_word_iff (w0 := 2) (by omega)).mp ((nI_eq (b := 2) (by have := Z_word_le (T := T) (t := q.1) 9 0 rfl; omega) (by omega)).mp c_5)
    have bh0 := BH_next (T := T) hq.1
    refine g_aload_n (pc := 14) d_MO_failsAtShop_14 rfl 0 rfl ?_
    refine g_getR (pc := 15) (ci := 7) (f := 0) (b := st) rfl r_m_0 d_MO_failsAtShop_15 fl_MO_7 (by decide) k_m ?_
    refine g_bipush (pc := 18) (v := 8) d_MO_failsAtShop_18 (by decide) ?_
    refine g_lia1 (pc := 20) (j := 8) d_MO_failsAtShop_20 k_st l_st (by decide) (by decide) nd ?_
    refine g_top (y := nI sc) (by rw [enc_c (by omega)]; exact hs) ?_
    refine g_bipush (pc := 21) (v := 8) d_MO_failsAtShop_21 (by decide) ?_
    refine g_icmp_ne (pc := 23) (tgt := 32) d_MO_failsAtShop_23 (by decide) (fun c_23 => ?_) (fun c_23 => ?_)
    · skip
      obtain ⟨q0, hq0⟩ : ∃ z, z = Y_next T n q := ⟨_, rfl⟩
      rw [← hq0] at bh0
      have hr0 : Y_row T n RS 8 0 (Y_next T n q) V = Y_row T n RS 8 0 q0 V := by rw [hq0]
      refine g_h (h' := wL h ((m, (rM c0 cm q.1.2.2.1 q.1.1 q.1.2.1 w q0.2.2.1 q0.2.2.2)) :: (st, (enc nw sc B g)) :: (mi, Ti) :: (nu, N) :: (co, K) :: (wd, wdR) :: R)) (by rw [hq0]; rfl) ?_
      refine g_aload_n (pc := 32) d_MO_failsAtShop_32 rfl 0 rfl ?_
      refine g_iconst (pc := 33) (v := 0) d_MO_failsAtShop_33 (by decide) ?_
      refine g_iconst (pc := 34) (v := 0) d_MO_failsAtShop_34 (by decide) ?_
      refine g_sipush (pc := 35) (v := 9999) d_MO_failsAtShop_35 (by decide) ?_
      refine g_fn (pc := 38) (p := 0) (lo := 0) (hi := 9999) (q := q0) rfl d_MO_failsAtShop_38 st_MO_failsAtShop_214 hM nd hn hc hT bh0 (by omega) (by decide) (by decide) (fun w9 y9 vq9 tw9 => ?_) (fun q1 e1 k1 a1 w1 v1 y0 hq1 hv1 bh1 => ?_)
      · skip
        refine g_if_ne (pc := 41) (tgt := 78) d_MO_failsAtShop_41 (by decide) (fun c_41 => ?_) (fun c_41 => ?_)
        · skip
          refine g_iconst (pc := 78) (v := 1) d_MO_failsAtShop_78 (by decide) ?_
          refine g_zret (pc := 79) d_MO_failsAtShop_79 rfl (by first | rfl | exact nar_bI _) ?_
          have er := hr0.trans (Y_row_f (l := RS) (i := 0) (d := 7) y9)
          have ey := Y_shop_f2 (B := B) (i := sc) hw1 er
          rw [ey]
          exact ⟨(w9, N, enc nw sc B g), ⟨vq9, tw9, fun j hj => enc_out n6 (by omega) hj, fun z => by cases z⟩, rfl, rfl⟩
        · exact absurd c_41 (by decide)
      · skip
        have hr1 := hr0.trans ((Y_row_t (l := RS) (i := 0) (d := 7) y0).trans (by rw [← hq1, ← hv1]))
        refine g_if_ne (pc := 41) (tgt := 78) d_MO_failsAtShop_41 (by decide) (fun c => absurd rfl c) (fun _ => ?_)
        refine g_aload_n (pc := 44) d_MO_failsAtShop_44 rfl 0 rfl ?_
        refine g_iconst (pc := 45) (v := 1) d_MO_failsAtShop_45 (by decide) ?_
        refine g_iconst (pc := 46) (v := 0) d_MO_failsAtShop_46 (by decide) ?_
        refine g_sipush (pc := 47) (v := 1000) d_MO_failsAtShop_47 (by decide) ?_
        refine g_fn (pc := 50) (p := 1) (lo := 0) (hi := 1000) (q := q1) rfl d_MO_failsAtShop_50 st_MO_failsAtShop_214 hM nd hn hc hT bh1 (by omega) (by decide) (by decide) (fun w9 y9 vq9 tw9 => ?_) (fun q2 e2 k2 a2 w2 v2 y1 hq2 hv2 bh2 => ?_)
        · skip
          refine g_if_ne (pc := 53) (tgt := 78) d_MO_failsAtShop_53 (by decide) (fun c_53 => ?_) (fun c_53 => ?_)
          · skip
            refine g_iconst (pc := 78) (v := 1) d_MO_failsAtShop_78 (by decide) ?_
            refine g_zret (pc := 79) d_MO_failsAtShop_79 rfl (by first | rfl | exact nar_bI _) ?_
            have er := hr1.trans (Y_row_f (l := RS) (i := 1) (d := 6) y9)
            have ey := Y_shop_f2 (B := B) (i := sc) hw1 er
            rw [ey]
            exact ⟨(w9, (u1 N 0 v1), enc nw sc B g), ⟨vq9, tw9, fun j hj => enc_out n6 (by omega) hj, fun z => by cases z⟩, rfl, rfl⟩
          · exact absurd c_53 (by decide)
        · skip
          have hr2 := hr1.trans ((Y_row_t (l := RS) (i := 1) (d := 6) y1).trans (by rw [← hq2, ← hv2]))
          refine g_if_ne (pc := 53) (tgt := 78) d_MO_failsAtShop_53 (by decide) (fun c => absurd rfl c) (fun _ => ?_)
          refine g_aload_n (pc := 56) d_MO_failsAtShop_56 rfl 0 rfl ?_
          refine g_iconst (pc := 57) (v := 2) d_MO_failsAtShop_57 (by decide) ?_
          refine g_iconst (pc := 58) (v := 0) d_MO_failsAtShop_58 (by decide) ?_
          refine g_bipush (pc := 59) (v := 100) d_MO_failsAtShop_59 (by decide) ?_
          refine g_fn (pc := 61) (p := 2) (lo := 0) (hi := 100) (q := q2) rfl d_MO_failsAtShop_61 st_MO_failsAtShop_214 hM nd hn hc hT bh2 (by omega) (by decide) (by decide) (fun w9 y9 vq9 tw9 => ?_) (fun q3 e3 k3 a3 w3 v3 y2 hq3 hv3 bh3 => ?_)
          · skip
            refine g_if_ne (pc := 64) (tgt := 78) d_MO_failsAtShop_64 (by decide) (fun c_64 => ?_) (fun c_64 => ?_)
            · skip
              refine g_iconst (pc := 78) (v := 1) d_MO_failsAtShop_78 (by decide) ?_
              refine g_zret (pc := 79) d_MO_failsAtShop_79 rfl (by first | rfl | exact nar_bI _) ?_
              have er := hr2.trans (Y_row_f (l := RS) (i := 2) (d := 5) y9)
              have ey := Y_shop_f2 (B := B) (i := sc) hw1 er
              rw [ey]
              exact ⟨(w9, (u1 (u1 N 0 v1) 1 v2), enc nw sc B g), ⟨vq9, tw9, fun j hj => enc_out n6 (by omega) hj, fun z => by cases z⟩, rfl, rfl⟩
            · exact absurd c_64 (by decide)
          · skip
            have hr3 := hr2.trans ((Y_row_t (l := RS) (i := 2) (d := 5) y2).trans (by rw [← hq3, ← hv3]))
            refine g_if_ne (pc := 64) (tgt := 78) d_MO_failsAtShop_64 (by decide) (fun c => absurd rfl c) (fun _ => ?_)
            refine g_aload_n (pc := 67) d_MO_failsAtShop_67 rfl 0 rfl ?_
            refine g_iconst (pc := 68) (v := 3) d_MO_failsAtShop_68 (by decide) ?_
            refine g_iconst (pc := 69) (v := 0) d_MO_failsAtShop_69 (by decide) ?_
            refine g_bipush (pc := 70) (v := 10) d_MO_failsAtShop_70 (by decide) ?_
            refine g_fn (pc := 72) (p := 3) (lo := 0) (hi := 10) (q := q3) rfl d_MO_failsAtShop_72 st_MO_failsAtShop_214 hM nd hn hc hT bh3 (by omega) (by decide) (by decide) (fun w9 y9 vq9 tw9 => ?_) (fun q4 e4 k4 a4 w4 v4 y3 hq4 hv4 bh4 => ?_)
            · skip
              refine g_if_eq (pc := 75) (tgt := 80) d_MO_failsAtShop_75 (by decide) (fun c_75 => ?_) (fun c_75 => ?_)
              · exact absurd c_75 (by decide)
              · skip
                refine g_iconst (pc := 78) (v := 1) d_MO_failsAtShop_78 (by decide) ?_
                refine g_zret (pc := 79) d_MO_failsAtShop_79 rfl (by first | rfl | exact nar_bI _) ?_
                have er := hr3.trans (Y_row_f (l := RS) (i := 3) (d := 4) y9)
                have ey := Y_shop_f2 (B := B) (i := sc) hw1 er
                rw [ey]
                exact ⟨(w9, (u1 (u1 (u1 N 0 v1) 1 v2) 2 v3), enc nw sc B g), ⟨vq9, tw9, fun j hj => enc_out n6 (by omega) hj, fun z => by cases z⟩, rfl, rfl⟩
            · skip
              have hr4 := hr3.trans ((Y_row_t (l := RS) (i := 3) (d := 4) y3).trans (by rw [← hq4, ← hv4]))
              refine g_if_eq (pc := 75) (tgt := 80) d_MO_failsAtShop_75 (by decide) (fun _ => ?_) (fun c => absurd rfl c)
              refine g_aload_n (pc := 80) d_MO_failsAtShop_80 rfl 0 rfl ?_
              refine g_iconst (pc := 81) (v := 4) d_MO_failsAtShop_81 (by decide) ?_
              refine g_iconst (pc := 82) (v := 1) d_MO_failsAtShop_82 (by decide) ?_
              refine g_sipush (pc := 83) (v := 5000) d_MO_failsAtShop_83 (by decide) ?_
              refine g_fn (pc := 86) (p := 4) (lo := 1) (hi := 5000) (q := q4) rfl d_MO_failsAtShop_86 st_MO_failsAtShop_214 hM nd hn hc hT bh4 (by omega) (by decide) (by decide) (fun w9 y9 vq9 tw9 => ?_) (fun q5 e5 k5 a5 w5 v5 y4 hq5 hv5 bh5 => ?_)
              · skip
                refine g_if_ne (pc := 89) (tgt := 127) d_MO_failsAtShop_89 (by decide) (fun c_89 => ?_) (fun c_89 => ?_)
                · skip
                  refine g_iconst (pc := 127) (v := 1) d_MO_failsAtShop_127 (by decide) ?_
                  refine g_zret (pc := 128) d_MO_failsAtShop_128 rfl (by first | rfl | exact nar_bI _) ?_
                  have er := hr4.trans (Y_row_f (l := RS) (i := 4) (d := 3) y9)
                  have ey := Y_shop_f2 (B := B) (i := sc) hw1 er
                  rw [ey]
                  exact ⟨(w9, (u1 (u1 (u1 (u1 N 0 v1) 1 v2) 2 v3) 3 v4), enc nw sc B g), ⟨vq9, tw9, fun j hj => enc_out n6 (by omega) hj, fun z => by cases z⟩, rfl, rfl⟩
                · exact absurd c_89 (by decide)
              · skip
                have hr5 := hr4.trans ((Y_row_t (l := RS) (i := 4) (d := 3) y4).trans (by rw [← hq5, ← hv5]))
                refine g_if_ne (pc := 89) (tgt := 127) d_MO_failsAtShop_89 (by decide) (fun c => absurd rfl c) (fun _ => ?_)
                refine g_aload_n (pc := 92) d_MO_failsAtShop_92 rfl 0 rfl ?_
                refine g_iconst (pc := 93) (v := 5) d_MO_failsAtShop_93 (by decide) ?_
                refine g_iconst (pc := 94) (v := 0) d_MO_failsAtShop_94 (by decide) ?_
                refine g_bipush (pc := 95) (v := 50) d_MO_failsAtShop_95 (by decide) ?_
                refine g_fn (pc := 97) (p := 5) (lo := 0) (hi := 50) (q := q5) rfl d_MO_failsAtShop_97 st_MO_failsAtShop_214 hM nd hn hc hT bh5 (by omega) (by decide) (by decide) (fun w9 y9 vq9 tw9 => ?_) (fun q6 e6 k6 a6 w6 v6 y5 hq6 hv6 bh6 => ?_)
                · skip
                  refine g_if_ne (pc := 100) (tgt := 127) d_MO_failsAtShop_100 (by decide) (fun c_100 => ?_) (fun c_100 => ?_)
                  · skip
                    refine g_iconst (pc := 127) (v := 1) d_MO_failsAtShop_127 (by decide) ?_
                    refine g_zret (pc := 128) d_MO_failsAtShop_128 rfl (by first | rfl | exact nar_bI _) ?_
                    have er := hr5.trans (Y_row_f (l := RS) (i := 5) (d := 2) y9)
                    have ey := Y_shop_f2 (B := B) (i := sc) hw1 er
                    rw [ey]
                    exact ⟨(w9, (u1 (u1 (u1 (u1 (u1 N 0 v1) 1 v2) 2 v3) 3 v4) 4 v5), enc nw sc B g), ⟨vq9, tw9, fun j hj => enc_out n6 (by omega) hj, fun z => by cases z⟩, rfl, rfl⟩
                  · exact absurd c_100 (by decide)
                · skip
                  have hr6 := hr5.trans ((Y_row_t (l := RS) (i := 5) (d := 2) y5).trans (by rw [← hq6, ← hv6]))
                  refine g_if_ne (pc := 100) (tgt := 127) d_MO_failsAtShop_100 (by decide) (fun c => absurd rfl c) (fun _ => ?_)
                  refine g_aload_n (pc := 103) d_MO_failsAtShop_103 rfl 0 rfl ?_
                  refine g_bipush (pc := 104) (v := 6) d_MO_failsAtShop_104 (by decide) ?_
                  refine g_iconst (pc := 106) (v := 0) d_MO_failsAtShop_106 (by decide) ?_
                  refine g_bipush (pc := 107) (v := 100) d_MO_failsAtShop_107 (by decide) ?_
                  refine g_fn (pc := 109) (p := 6) (lo := 0) (hi := 100) (q := q6) rfl d_MO_failsAtShop_109 st_MO_failsAtShop_214 hM nd hn hc hT bh6 (by omega) (by decide) (by decide) (fun w9 y9 vq9 tw9 => ?_) (fun q7 e7 k7 a7 w7 v7 y6 hq7 hv7 bh7 => ?_)
                  · skip
                    refine g_if_ne (pc := 112) (tgt := 127) d_MO_failsAtShop_112 (by decide) (fun c_112 => ?_) (fun c_112 => ?_)
                    · skip
                      refine g_iconst (pc := 127) (v := 1) d_MO_failsAtShop_127 (by decide) ?_
                      refine g_zret (pc := 128) d_MO_failsAtShop_128 rfl (by first | rfl | exact nar_bI _) ?_
                      have er := hr6.trans (Y_row_f (l := RS) (i := 6) (d := 1) y9)
                      have ey := Y_shop_f2 (B := B) (i := sc) hw1 er
                      rw [ey]
                      exact ⟨(w9, (u1 (u1 (u1 (u1 (u1 (u1 N 0 v1) 1 v2) 2 v3) 3 v4) 4 v5) 5 v6), enc nw sc B g), ⟨vq9, tw9, fun j hj => enc_out n6 (by omega) hj, fun z => by cases z⟩, rfl, rfl⟩
                    · exact absurd c_112 (by decide)
                  · skip
                    have hr7 := hr6.trans ((Y_row_t (l := RS) (i := 6) (d := 1) y6).trans (by rw [← hq7, ← hv7]))
                    refine g_if_ne (pc := 112) (tgt := 127) d_MO_failsAtShop_112 (by decide) (fun c => absurd rfl c) (fun _ => ?_)
                    refine g_aload_n (pc := 115) d_MO_failsAtShop_115 rfl 0 rfl ?_
                    refine g_bipush (pc := 116) (v := 7) d_MO_failsAtShop_116 (by decide) ?_
                    refine g_iconst (pc := 118) (v := 0) d_MO_failsAtShop_118 (by decide) ?_
                    refine g_bipush (pc := 119) (v := 30) d_MO_failsAtShop_119 (by decide) ?_
                    refine g_fn (pc := 121) (p := 7) (lo := 0) (hi := 30) (q := q7) rfl d_MO_failsAtShop_121 st_MO_failsAtShop_214 hM nd hn hc hT bh7 (by omega) (by decide) (by decide) (fun w9 y9 vq9 tw9 => ?_) (fun q8 e8 k8 a8 w8 v8 y7 hq8 hv8 bh8 => ?_)
                    · skip
                      refine g_if_eq (pc := 124) (tgt := 129) d_MO_failsAtShop_124 (by decide) (fun c_124 => ?_) (fun c_124 => ?_)
                      · exact absurd c_124 (by decide)
                      · skip
                        refine g_iconst (pc := 127) (v := 1) d_MO_failsAtShop_127 (by decide) ?_
                        refine g_zret (pc := 128) d_MO_failsAtShop_128 rfl (by first | rfl | exact nar_bI _) ?_
                        have er := hr7.trans (Y_row_f (l := RS) (i := 7) (d := 0) y9)
                        have ey := Y_shop_f2 (B := B) (i := sc) hw1 er
                        rw [ey]
                        exact ⟨(w9, (u1 (u1 (u1 (u1 (u1 (u1 (u1 N 0 v1) 1 v2) 2 v3) 3 v4) 4 v5) 5 v6) 6 v7), enc nw sc B g), ⟨vq9, tw9, fun j hj => enc_out n6 (by omega) hj, fun z => by cases z⟩, rfl, rfl⟩
                    · skip
                      have hr8 := hr7.trans ((Y_row_t (l := RS) (i := 7) (d := 0) y7).trans (by rw [← hq8, ← hv8]))
                      refine g_if_eq (pc := 124) (tgt := 129) d_MO_failsAtShop_124 (by decide) (fun _ => ?_) (fun c => absurd rfl c)
                      have er := hr8
                      have ey := Y_shop_3 (B := B) (i := sc) hw1 er
                      refine g_aload_n (pc := 129) d_MO_failsAtShop_129 rfl 0 rfl ?_
                      refine g_getR (pc := 130) (ci := 7) (f := 12) (b := nu) rfl r_m_12 d_MO_failsAtShop_130 fl_MO_25 (by decide) k_m ?_
                      refine g_iconst (pc := 133) (v := 1) d_MO_failsAtShop_133 (by decide) ?_
                      refine g_dup2 (pc := 134) d_MO_failsAtShop_134 rfl rfl ?_
                      refine g_lia3 (pc := 135) (j := 1) d_MO_failsAtShop_135 k_nu l_nu (by first | assumption | omega | decide) (by decide) nd ?_
                      refine g_sipush (pc := 136) (v := 500) d_MO_failsAtShop_136 (by decide) ?_
                      refine g_top2 (y := v2) rfl ?_
                      refine g_isub (pc := 139) d_MO_failsAtShop_139 ?_
                      refine g_lis3 (pc := 140) (j := 1) d_MO_failsAtShop_140 k_nu l_nu (by first | assumption | omega | decide) (by decide) nd ?_
                      refine g_aload_n (pc := 141) d_MO_failsAtShop_141 rfl 0 rfl ?_
                      refine g_getR (pc := 142) (ci := 7) (f := 12) (b := nu) rfl r_m_12 d_MO_failsAtShop_142 fl_MO_25 (by decide) k_m ?_
                      refine g_iconst (pc := 145) (v := 2) d_MO_failsAtShop_145 (by decide) ?_
                      refine g_dup2 (pc := 146) d_MO_failsAtShop_146 rfl rfl ?_
                      refine g_lia3 (pc := 147) (j := 2) d_MO_failsAtShop_147 k_nu l_nu (by first | assumption | omega | decide) (by decide) nd ?_
                      refine g_bipush (pc := 148) (v := 50) d_MO_failsAtShop_148 (by decide) ?_
                      refine g_top2 (y := v3) rfl ?_
                      refine g_isub (pc := 150) d_MO_failsAtShop_150 ?_
                      refine g_lis3 (pc := 151) (j := 2) d_MO_failsAtShop_151 k_nu l_nu (by first | assumption | omega | decide) (by decide) nd ?_
                      refine g_aload_n (pc := 152) d_MO_failsAtShop_152 rfl 0 rfl ?_
                      refine g_getR (pc := 153) (ci := 7) (f := 12) (b := nu) rfl r_m_12 d_MO_failsAtShop_153 fl_MO_25 (by decide) k_m ?_
                      refine g_iconst (pc := 156) (v := 3) d_MO_failsAtShop_156 (by decide) ?_
                      refine g_dup2 (pc := 157) d_MO_failsAtShop_157 rfl rfl ?_
                      refine g_lia3 (pc := 158) (j := 3) d_MO_failsAtShop_158 k_nu l_nu (by first | assumption | omega | decide) (by decide) nd ?_
                      refine g_iconst (pc := 159) (v := 5) d_MO_failsAtShop_159 (by decide) ?_
                      refine g_top2 (y := v4) rfl ?_
                      refine g_isub (pc := 160) d_MO_failsAtShop_160 ?_
                      refine g_lis3 (pc := 161) (j := 3) d_MO_failsAtShop_161 k_nu l_nu (by first | assumption | omega | decide) (by decide) nd ?_
                      refine g_aload_n (pc := 162) d_MO_failsAtShop_162 rfl 0 rfl ?_
                      refine g_cV0 (pc := 163) (ci := 7) (As := []) d_MO_failsAtShop_163 rfl mv_MO_addShop st_MO_failsAtShop_49 rfl rfl (by decide) rfl rfl (Nat.le_of_ble_eq_true rfl) k_m (cm_MO_addShop hM nd hs s8) ?_
                      obtain ⟨V8, hV8e⟩ : ∃ z, z = (u1 (u1 (u1 (u1 (u1 (u1 (u1 (u1 V 0 v1) 1 v2) 2 v3) 3 v4) 4 v5) 5 v6) 6 v7) 7 v8) := ⟨_, rfl⟩
                      rw [← hV8e] at ey
                      rw [addG_enc (V := V8) n6 s8 hz0 (by rw [hV8e]; intro j hj; obtain rfl | rfl | rfl | rfl | rfl | rfl | rfl | rfl : j = 0 ∨ j = 1 ∨ j = 2 ∨ j = 3 ∨ j = 4 ∨ j = 5 ∨ j = 6 ∨ j = 7 := (by omega) <;> rfl)]
                      refine g_aload_n (pc := 166) d_MO_failsAtShop_166 rfl 0 rfl ?_
                      refine g_cVx (pc := 167) (ci := 7) (As := []) d_MO_failsAtShop_167 rfl mv_MO_failsAtNext st_MO_failsAtShop_218 rfl rfl (by decide) rfl rfl (Nat.le_of_ble_eq_true rfl) k_m (ce_MO_failsAtNext (q := q8) hM nd hn hc hT bh8) (fun z hz => ?_)
                      refine g_zret (pc := 170) d_MO_failsAtShop_170 rfl (by first | rfl | exact nar_bI _) ?_
                      refine ⟨(z, (u1 (u1 (u1 (u1 (u1 (u1 (u1 (u1 (u1 (u1 (u1 N 0 v1) 1 v2) 2 v3) 3 v4) 4 v5) 5 v6) 6 v7) 7 v8) 1 (v2 - 500)) 2 (v3 - 50)) 3 (v4 - 5)), enc nw (sc + 1) (P_addS B sc V8) (u1 g 12 (g 12 + V8 0))), ⟨?_, ?_, fun j hj => ?_, fun y => ?_⟩, ?_, ?_⟩
                      · rw [ey]; exact hz.1
                      · rw [ey]; exact hz.2
                      · show enc nw (sc + 1) (P_addS B sc V8) (u1 g 12 (g 12 + V8 0)) j = g j
                        rw [enc_out n6 (by omega) hj, u1_ne (by omega)]
                      · rw [ey] at y ⊢
                        show _ = enc nw (sc + 1) (if (Y_semi T n q8).1 = true then P_addS B sc V8 else B) (u1 g 12 (g 12 + (if (Y_semi T n q8).1 = true then P_addS B sc V8 else B).2.2 sc 15))
                        rw [if_pos y]
                        have e15 : (P_addS B sc V8).2.2 sc 15 = V8 0 := by show u1 B.2.2 sc (M_begin (B.2.2 sc) V8) sc 15 = V8 0; rw [u1_same]; rfl
                        rw [e15]
                      · rw [ey]
                      · rw [ey]
    · exact absurd ((nI_eq (b := 8) (by omega) (by omega)).mp c_23) (by omega)
  · skip
    have hw1 : ¬ Y_isw T q.1 3 = true := fun z => c_5 (by rw [(Z_word_iff (w0 := 2) (by omega)).mpr z]; rfl)
    refine g_aload_n (pc := 8) d_MO_failsAtShop_8 rfl 0 rfl ?_
    refine g_iconst (pc := 9) (v := 1) d_MO_failsAtShop_9 (by decide) ?_
    refine g_cV1 (pc := 10) (ci := 7) (As := [.int _]) d_MO_failsAtShop_10 rfl mv_MO_fails st_MO_failsAtShop_202 rfl rfl (by decide) rfl rfl (Nat.le_of_ble_eq_true rfl) k_m (cm_MO_fails hM nd hn hc hT) ?_
    refine g_zret (pc := 13) d_MO_failsAtShop_13 rfl (by first | rfl | exact nar_bI _) ?_
    have ey := Y_shop_f1 (n := n) (i := sc) (V := V) (B := B) hw1
    rw [ey]
    exact ⟨(w, N, enc nw sc B g), ⟨hv, hq, fun j hj => enc_out n6 (by omega) hj, fun z => by cases z⟩, rfl, rfl⟩
set_option maxRecDepth 20000 in
theorem cm_MO_failsAtShop9 {E : En} {h : Hp} {nw : Nat} {B : Bu} {m st mi nu co wd n : Nat} {c0 g T Ti N K : Nat → Int32} {R : List (Nat × (Nat → Int32))} {cm : Nat} {q : Ps} {w : Int32} (hM : MpOk h m st mi nu co wd) (nd : (m :: st :: mi :: nu :: co :: wd :: R.map Prod.fst).Nodup) (hn : n ≤ 500) (hc : c0 5 = nI n) (hT : ∀ j, j < n → Ti j = T j) (hq : TW T n q.1) (hs : B.1 8 = nI 8) (hw1 : Y_isw T q.1 3 = true) : CR E m_MO_failsAtShop [.ref m] (wL h ((m, (rQ c0 cm q w)) :: (st, (enc nw 8 B g)) :: (mi, Ti) :: (nu, N) :: (co, K) :: (wd, wdR) :: R)) (some (.int 1)) (wL h ((m, (rQ c0 cm (Y_fail 4 q) w)) :: (st, (enc nw 8 B g)) :: (mi, Ti) :: (nu, N) :: (co, K) :: (wd, wdR) :: R)) := by
  refine ct_of rfl (by decide +kernel) (Nat.le_of_ble_eq_true rfl) ?_
  show G E m_MO_failsAtShop 0 [(0, .ref m)] [] (wL h ((m, (rQ c0 cm q w)) :: (st, (enc nw 8 B g)) :: (mi, Ti) :: (nu, N) :: (co, K) :: (wd, wdR) :: R)) 0 0 _ noX
  obtain ⟨k_m, r_m_0, k_st, l_st, r_m_4, k_mi, l_mi, r_m_12, k_nu, l_nu, r_m_13, k_co, l_co, r_m_18, k_wd, l_wd⟩ := id hM
  refine g_aload_n (pc := 0) d_MO_failsAtShop_0 rfl 0 rfl ?_
  refine g_cV1 (pc := 1) (ci := 7) (As := []) d_MO_failsAtShop_1 rfl mv_MO_wordOf st_MO_failsAtShop_211 rfl rfl (by decide) rfl rfl (Nat.le_of_ble_eq_true rfl) k_m (cm_MO_wordOf hM nd hn hc hT hq) ?_
  refine g_iconst (pc := 4) (v := 2) d_MO_failsAtShop_4 (by decide) ?_
  refine g_icmp_eq (pc := 5) (tgt := 14) d_MO_failsAtShop_5 (by decide) (fun c_5 => ?_) (fun c_5 => ?_)
  · skip
    refine g_aload_n (pc := 14) d_MO_failsAtShop_14 rfl 0 rfl ?_
    refine g_getR (pc := 15) (ci := 7) (f := 0) (b := st) rfl r_m_0 d_MO_failsAtShop_15 fl_MO_7 (by decide) k_m ?_
    refine g_bipush (pc := 18) (v := 8) d_MO_failsAtShop_18 (by decide) ?_
    refine g_lia1 (pc := 20) (j := 8) d_MO_failsAtShop_20 k_st l_st (by decide) (by decide) nd ?_
    refine g_top (y := nI 8) (by rw [enc_c (by omega)]; exact hs) ?_
    refine g_bipush (pc := 21) (v := 8) d_MO_failsAtShop_21 (by decide) ?_
    refine g_icmp_ne (pc := 23) (tgt := 32) d_MO_failsAtShop_23 (by decide) (fun c_23 => ?_) (fun c_23 => ?_)
    · exact (c_23 rfl).elim
    · skip
      refine g_aload_n (pc := 26) d_MO_failsAtShop_26 rfl 0 rfl ?_
      refine g_iconst (pc := 27) (v := 4) d_MO_failsAtShop_27 (by decide) ?_
      refine g_cV1 (pc := 28) (ci := 7) (As := [.int _]) d_MO_failsAtShop_28 rfl mv_MO_fails st_MO_failsAtShop_202 rfl rfl (by decide) rfl rfl (Nat.le_of_ble_eq_true rfl) k_m (cm_MO_fails hM nd hn hc hT) ?_
      refine g_zret (pc := 31) d_MO_failsAtShop_31 rfl (by first | rfl | exact nar_bI _) ?_
      exact ⟨rfl, rfl⟩
  · exact (c_5 (by rw [(Z_word_iff (w0 := 2) (by omega)).mpr hw1]; rfl)).elim
