/-! THE PARSER: scripts, setups -/
abbrev Sq : Type := Nat × (Nat → Int32) × (Nat → Int32) × (Nat → Int32)
def rS (S0 : Nat → Int32) (c : Nat) : Nat → Int32 := u1 S0 3 (nI c)
theorem rS_3 {S0 : Nat → Int32} {c : Nat} : rS S0 c 3 = nI c := rfl
theorem rS_p3 {S0 : Nat → Int32} {c x : Nat} : u1 (rS S0 c) 3 (nI x) = rS S0 x := u1_u1 _ _ _ _
def ScOk (h : Hp) (sc vb sb nb : Nat) : Prop := hK h sc = 4 ∧ hR h sc 0 = some vb ∧ hR h sc 1 = some sb ∧ hR h sc 2 = some nb ∧ hK h vb = 20 ∧ hL h vb = 20 ∧ hK h sb = 20 ∧ hL h sb = 20 ∧ hK h nb = 20 ∧ hL h nb = 20
def Y_add (S : Sq) (v a num : Int32) : Sq := if S.1 < 20 then (S.1 + 1, u1 S.2.1 S.1 v, u1 S.2.2.1 S.1 a, u1 S.2.2.2 S.1 num) else S
theorem Y_add_le {S : Sq} {v a num : Int32} (h : S.1 ≤ 20) : (Y_add S v a num).1 ≤ 20 := by
  unfold Y_add
  split
  · next h1 => exact h1
  · exact h
def Y_verb (T : Nat → Int32) (t : Tk) : Int32 := if Y_isw T t 4 = true then 0 else if Y_isw T t 5 = true then 1 else if Y_isw T t 6 = true then 2 else if Y_isw T t 7 = true then 3 else if Y_isw T t 8 = true then 4 else if Y_isw T t 9 = true then 5 else -1
def Y_end (T : Nat → Int32) (n : Nat) (v a : Int32) (q : Ps) (S : Sq) : Bool × Ps × Sq := ((Y_semi T n q).1, (Y_semi T n q).2, Y_add S v a q.2.1)
def Y_cmd (T : Nat → Int32) (n : Nat) (c : Int32) (q : Ps) (S : Sq) : Bool × Ps × Sq :=
  if Y_verb T q.1 = -1 then (false, Y_fail 1 q, S)
  else if Y_verb T q.1 = 0 then
    (if (Y_num T n 1 100 (Y_next T n q)).1 = true then Y_end T n (Y_verb T q.1) 0 (Y_num T n 1 100 (Y_next T n q)).2 S else (false, (Y_num T n 1 100 (Y_next T n q)).2, S))
  else if (Y_num T n 0 (c - 1) (Y_next T n q)).1 = true then
    (if Y_verb T q.1 = 3 then
      (if (Y_num T n 0 100 (Y_num T n 0 (c - 1) (Y_next T n q)).2).1 = true then Y_end T n (Y_verb T q.1) (Y_num T n 0 (c - 1) (Y_next T n q)).2.2.1 (Y_num T n 0 100 (Y_num T n 0 (c - 1) (Y_next T n q)).2).2 S else (false, (Y_num T n 0 100 (Y_num T n 0 (c - 1) (Y_next T n q)).2).2, S))
      else Y_end T n (Y_verb T q.1) (Y_num T n 0 (c - 1) (Y_next T n q)).2.2.1 (Y_num T n 0 (c - 1) (Y_next T n q)).2 S)
  else (false, (Y_num T n 0 (c - 1) (Y_next T n q)).2, S)
def Y_cmds (T : Nat → Int32) (n : Nat) (c : Int32) : Nat → Ps → Sq → Bool × Ps × Sq
  | 0, q, S => if q.1.1 = 0 then (true, q, S) else (false, Y_fail (if Y_verb T q.1 = -1 then 1 else 4) q, S)
  | d + 1, q, S => if q.1.1 = 0 then (true, q, S) else if (Y_cmd T n c q S).1 = true then Y_cmds T n c d (Y_cmd T n c q S).2.1 (Y_cmd T n c q S).2.2 else (false, (Y_cmd T n c q S).2)
theorem TkO_end {T : Nat → Int32} {n : Nat} {v a : Int32} {q : Ps} {S : Sq} (h : TkO n q.1) : TkO n (Y_end T n v a q S).2.1.1 := TkO_semi h
theorem TkO_next {T : Nat → Int32} {n : Nat} {q : Ps} (h : TkO n q.1) : TkO n (Y_next T n q).1 := TkO_nx h
theorem TkO_cmd {T : Nat → Int32} {n : Nat} {c : Int32} {q : Ps} {S : Sq} (h : TkO n q.1) : TkO n (Y_cmd T n c q S).2.1.1 := by
  unfold Y_cmd
  split
  · exact h
  · split
    · split
      · exact TkO_end (TkO_num (TkO_next h))
      · exact TkO_num (TkO_next h)
    · split
      · split
        · split
          · exact TkO_end (TkO_num (TkO_num (TkO_next h)))
          · exact TkO_num (TkO_num (TkO_next h))
        · exact TkO_end (TkO_num (TkO_next h))
      · exact TkO_num (TkO_next h)
theorem le_end {T : Nat → Int32} {n : Nat} {v a : Int32} {q : Ps} {S : Sq} (h : S.1 ≤ 20) : (Y_end T n v a q S).2.2.1 ≤ 20 := Y_add_le h
theorem le_cmd {T : Nat → Int32} {n : Nat} {c : Int32} {q : Ps} {S : Sq} (h : S.1 ≤ 20) : (Y_cmd T n c q S).2.2.1 ≤ 20 := by
  unfold Y_cmd
  split
  · exact h
  · split
    · split
      · exact le_end h
      · exact h
    · split
      · split
        · split
          · exact le_end h
          · exact h
        · exact le_end h
      · exact h
theorem TkO_start {T : Nat → Int32} {n : Nat} {q : Ps} : TkO n (Y_start T n q).1 := TkO_tok (Nat.zero_le n)
/-! setups -/
def Y_weight (T : Nat → Int32) (n : Nat) (q : Ps) (B : Bu) (nw : Nat) : Bool × Ps × Bu × Nat :=
  if (Y_in 1 5000 q).1 = true then
    (if P_has B.2.1 q.1.2.2.2 nw = true then (false, Y_fail 3 q, B, nw)
     else if nw < 6 then (true, Y_next T n q, P_addW B nw q.1.2.2.2, nw + 1) else (false, Y_fail 4 q, B, nw))
  else (false, (Y_in 1 5000 q).2, B, nw)
def Y_wl (T : Nat → Int32) (n : Nat) : Nat → Ps → Bu → Nat → Bool × Ps × Bu × Nat
  | 0, q, B, nw => ((Y_semi T n q).1, (Y_semi T n q).2, B, nw)
  | d + 1, q, B, nw => if q.1.1 = 2 then (if (Y_weight T n q B nw).1 = true then Y_wl T n d (Y_weight T n q B nw).2.1 (Y_weight T n q B nw).2.2.1 (Y_weight T n q B nw).2.2.2 else (false, (Y_weight T n q B nw).2)) else ((Y_semi T n q).1, (Y_semi T n q).2, B, nw)
def Y_weights (T : Nat → Int32) (n : Nat) (q : Ps) (B : Bu) (nw : Nat) : Bool × Ps × Bu × Nat :=
  if (Y_word T n 2 q).1 = true then
    (if (Y_weight T n (Y_word T n 2 q).2 B nw).1 = true then Y_wl T n 6 (Y_weight T n (Y_word T n 2 q).2 B nw).2.1 (Y_weight T n (Y_word T n 2 q).2 B nw).2.2.1 (Y_weight T n (Y_word T n 2 q).2 B nw).2.2.2 else (false, (Y_weight T n (Y_word T n 2 q).2 B nw).2))
  else (false, (Y_word T n 2 q).2, B, nw)
theorem cb_beginV {E : En} {h : Hp} {b r : Nat} {B : Bu} {V : Nat → Int32} (hB : BuOk h b) (hr : hK h r = 20) (hl : hL h r = 8) (hf : Fo h b r) (hv : hI h r = V) : CR E m_BU_begin [.ref b, .ref r] (wB h b B) none (wB h b (M_beginB B.1 V, B.2)) := hv ▸ cb_begin hB hr hl hf
theorem cb_addShopV {E : En} {h : Hp} {b sc r : Nat} {B : Bu} {V : Nat → Int32} (hB : BuOk h b) (hs : B.1 8 = nI sc) (hn : sc < 8) (hr : hK h r = 20) (hl : hL h r = 8) (hf : Fo h b r) (hv : hI h r = V) : CR E m_BU_addShop [.ref b, .ref r] (wB h b B) none (wB h b (P_addS B sc V)) := hv ▸ cb_addShop hB hs hn hr hl hf
def RB : List Int32 := [0, 50, 0, 50, 0, 99, 1, 99, 1, 50, 0, 3, 0, 65536]
def RS : List Int32 := [0, 9999, 0, 1000, 0, 100, 0, 10, 1, 5000, 0, 50, 0, 100, 0, 30]
abbrev Bp : Type := Bool × Ps × (Nat → Int32) × Bu
def Y_bur (T : Nat → Int32) (n : Nat) (q : Ps) (V : Nat → Int32) (B : Bu) : Bp :=
  let a := Y_word T n 1 q
  let r := Y_row T n RB 7 0 a.2 V
  let s := Y_semi T n r.2.1
  if a.1 = true then (if r.1 = true then (if s.1 = true then (true, s.2, r.2.2, M_beginB B.1 r.2.2, B.2) else (false, s.2, r.2.2, B)) else (false, r.2.1, r.2.2, B)) else (false, a.2, V, B)
def Y_shop1 (T : Nat → Int32) (n i : Nat) (q : Ps) (V : Nat → Int32) (B : Bu) : Bp :=
  let a := Y_word T n 3 q
  let r := Y_row T n RS 8 0 a.2 V
  let s := Y_semi T n r.2.1
  if a.1 = true then (if r.1 = true then (if s.1 = true then (true, s.2, r.2.2, P_addS B i r.2.2) else (false, s.2, r.2.2, B)) else (false, r.2.1, r.2.2, B)) else (false, a.2, V, B)
def Y_sh (T : Nat → Int32) (n : Nat) : Nat → Nat → Ps → (Nat → Int32) → Bu → Bp
  | 0, _, q, V, B => if q.1.1 = 0 then (true, q, V, B) else (false, Y_fail (if Y_isw T q.1 3 = true then 4 else 1) q, V, B)
  | d + 1, i, q, V, B => if 0 < i ∧ q.1.1 = 0 then (true, q, V, B) else if (Y_shop1 T n i q V B).1 = true then Y_sh T n d (i + 1) (Y_shop1 T n i q V B).2.1 (Y_shop1 T n i q V B).2.2.1 (Y_shop1 T n i q V B).2.2.2 else (false, (Y_shop1 T n i q V B).2)
theorem TkO_in {n : Nat} {lo hi : Int32} {q : Ps} (h : TkO n q.1) : TkO n (Y_in lo hi q).2.1 := by rw [Y_in_1]; exact h
theorem TkO_weight {T : Nat → Int32} {n nw : Nat} {q : Ps} {B : Bu} (h : TkO n q.1) : TkO n (Y_weight T n q B nw).2.1.1 := by
  unfold Y_weight
  split
  · split
    · exact h
    · split
      · exact TkO_next h
      · exact h
  · exact TkO_in h
theorem Y_weight_inv {T : Nat → Int32} {n nw : Nat} {q : Ps} {B : Bu} (hw : B.1 7 = nI nw) (hn : nw ≤ 6) : (Y_weight T n q B nw).2.2.1.1 7 = nI (Y_weight T n q B nw).2.2.2 ∧ (Y_weight T n q B nw).2.2.2 ≤ 6 ∧ (∀ k, k ≠ 7 → (Y_weight T n q B nw).2.2.1.1 k = B.1 k) ∧ (Y_weight T n q B nw).2.2.1.2.2 = B.2.2 := by
  unfold Y_weight
  split
  · split
    · exact ⟨hw, hn, fun _ _ => rfl, rfl⟩
    · split
      · next h1 => exact ⟨rfl, h1, fun k hk => u1_ne hk, rfl⟩
      · exact ⟨hw, hn, fun _ _ => rfl, rfl⟩
  · exact ⟨hw, hn, fun _ _ => rfl, rfl⟩
theorem TkO_bur {T : Nat → Int32} {n : Nat} {q : Ps} {V : Nat → Int32} {B : Bu} (h : TkO n q.1) : TkO n (Y_bur T n q V B).2.1.1 := by
  unfold Y_bur
  dsimp only
  split
  · split
    · split
      · exact TkO_semi (TkO_row (TkO_word h))
      · exact TkO_semi (TkO_row (TkO_word h))
    · exact TkO_row (TkO_word h)
  · exact TkO_word h
theorem TkO_shop1 {T : Nat → Int32} {n i : Nat} {q : Ps} {V : Nat → Int32} {B : Bu} (h : TkO n q.1) : TkO n (Y_shop1 T n i q V B).2.1.1 := by
  unfold Y_shop1
  dsimp only
  split
  · split
    · split
      · exact TkO_semi (TkO_row (TkO_word h))
      · exact TkO_semi (TkO_row (TkO_word h))
    · exact TkO_row (TkO_word h)
  · exact TkO_word h
theorem d_SC_add_0 : decode (mC m_SC_add) 0 = .ok (.aload_n 0, 1) := by decide +kernel
theorem d_SC_add_1 : decode (mC m_SC_add) 1 = .ok (.getfield 21, 3) := by decide +kernel
theorem d_SC_add_4 : decode (mC m_SC_add) 4 = .ok (.bipush 20, 2) := by decide +kernel
theorem d_SC_add_6 : decode (mC m_SC_add) 6 = .ok (.if_icmp .ge 43, 3) := by decide +kernel
theorem d_SC_add_9 : decode (mC m_SC_add) 9 = .ok (.aload_n 0, 1) := by decide +kernel
theorem d_SC_add_10 : decode (mC m_SC_add) 10 = .ok (.getfield 9, 3) := by decide +kernel
theorem d_SC_add_13 : decode (mC m_SC_add) 13 = .ok (.aload_n 0, 1) := by decide +kernel
theorem d_SC_add_14 : decode (mC m_SC_add) 14 = .ok (.getfield 21, 3) := by decide +kernel
theorem d_SC_add_17 : decode (mC m_SC_add) 17 = .ok (.iload_n 1, 1) := by decide +kernel
theorem d_SC_add_18 : decode (mC m_SC_add) 18 = .ok (.iastore, 1) := by decide +kernel
theorem d_SC_add_19 : decode (mC m_SC_add) 19 = .ok (.aload_n 0, 1) := by decide +kernel
theorem d_SC_add_20 : decode (mC m_SC_add) 20 = .ok (.getfield 15, 3) := by decide +kernel
theorem d_SC_add_23 : decode (mC m_SC_add) 23 = .ok (.aload_n 0, 1) := by decide +kernel
theorem d_SC_add_24 : decode (mC m_SC_add) 24 = .ok (.getfield 21, 3) := by decide +kernel
theorem d_SC_add_27 : decode (mC m_SC_add) 27 = .ok (.iload_n 2, 1) := by decide +kernel
theorem d_SC_add_28 : decode (mC m_SC_add) 28 = .ok (.iastore, 1) := by decide +kernel
theorem d_SC_add_29 : decode (mC m_SC_add) 29 = .ok (.aload_n 0, 1) := by decide +kernel
theorem d_SC_add_30 : decode (mC m_SC_add) 30 = .ok (.getfield 18, 3) := by decide +kernel
theorem d_SC_add_33 : decode (mC m_SC_add) 33 = .ok (.aload_n 0, 1) := by decide +kernel
theorem d_SC_add_34 : decode (mC m_SC_add) 34 = .ok (.getfield 21, 3) := by decide +kernel
theorem d_SC_add_37 : decode (mC m_SC_add) 37 = .ok (.iload_n 3, 1) := by decide +kernel
theorem d_SC_add_38 : decode (mC m_SC_add) 38 = .ok (.iastore, 1) := by decide +kernel
theorem d_SC_add_39 : decode (mC m_SC_add) 39 = .ok (.aload_n 0, 1) := by decide +kernel
theorem d_SC_add_40 : decode (mC m_SC_add) 40 = .ok (.dup, 1) := by decide +kernel
theorem d_SC_add_41 : decode (mC m_SC_add) 41 = .ok (.getfield 21, 3) := by decide +kernel
theorem d_SC_add_44 : decode (mC m_SC_add) 44 = .ok (.iconst 1, 1) := by decide +kernel
theorem d_SC_add_45 : decode (mC m_SC_add) 45 = .ok (.iadd, 1) := by decide +kernel
theorem d_SC_add_46 : decode (mC m_SC_add) 46 = .ok (.putfield 21, 3) := by decide +kernel
theorem d_SC_add_49 : decode (mC m_SC_add) 49 = .ok (.return_, 1) := by decide +kernel
set_option maxRecDepth 20000 in
theorem cx_SC_add {E : En} {h : Hp} {ip bt pa rw sc n : Nat} {F0 T P0 V : Nat → Int32} {q : Ps} {R : List (Nat × (Nat → Int32))} {vb sb nb : Nat} {S0 : Nat → Int32} {S : Sq} {v1 a1 num : Int32} (hI : InOk h ip bt) (hP : PaOk h pa ip rw sc) (hS : ScOk h sc vb sb nb) (nd : (ip :: bt :: pa :: rw :: sc :: vb :: sb :: nb :: R.map Prod.fst).Nodup) (hn : n ≤ 500) (hq : TkO n q.1) (hc : S.1 ≤ 20) : CR E m_SC_add [.ref sc, .int v1, .int a1, .int num] (wL h ((ip, rF F0 n q.1) :: (bt, T) :: (pa, rP P0 q.2) :: (rw, V) :: (sc, rS S0 S.1) :: (vb, S.2.1) :: (sb, S.2.2.1) :: (nb, S.2.2.2) :: R)) (none) (wL h ((ip, rF F0 n q.1) :: (bt, T) :: (pa, rP P0 q.2) :: (rw, V) :: (sc, rS S0 (Y_add S v1 a1 num).1) :: (vb, (Y_add S v1 a1 num).2.1) :: (sb, (Y_add S v1 a1 num).2.2.1) :: (nb, (Y_add S v1 a1 num).2.2.2) :: R)) := by
  refine ct_of rfl (by decide +kernel) (Nat.le_of_ble_eq_true rfl) ?_
  show G E m_SC_add 0 [(0, .ref sc), (1, .int v1), (2, .int a1), (3, .int num)] [] (wL h ((ip, rF F0 n q.1) :: (bt, T) :: (pa, rP P0 q.2) :: (rw, V) :: (sc, rS S0 S.1) :: (vb, S.2.1) :: (sb, S.2.2.1) :: (nb, S.2.2.2) :: R)) 0 0 _ noX
  obtain ⟨k_ip, r_ip_0, k_bt, l_bt⟩ := id hI
  obtain ⟨k_pa, r_pa_0, r_pa_1, r_pa_2, k_rw, l_rw⟩ := id hP
  obtain ⟨k_sc, r_sc_0, r_sc_1, r_sc_2, k_vb, l_vb, k_sb, l_sb, k_nb, l_nb⟩ := id hS
  refine g_aload_n (pc := 0) d_SC_add_0 rfl 0 rfl ?_
  refine g_lgI4 (pc := 1) (ci := 3) (f := 3) rfl d_SC_add_1 fl_SC_21 (by decide) k_sc nd ?_
  refine g_top rS_3 ?_
  refine g_bipush (pc := 4) (v := 20) d_SC_add_4 (by decide) ?_
  refine g_icmp_ge (pc := 6) (tgt := 49) d_SC_add_6 (by decide) (fun c_6 => ?_) (fun c_6 => ?_)
  · skip
    have w2 : ¬ S.1 < 20 := fun z => absurd ((nI_leI (a := 20) (b := S.1) (by omega) (by omega)).mp c_6) (by omega)
    refine g_vret (pc := 49) d_SC_add_49 rfl ?_
    refine ⟨rfl, ?_⟩
    unfold Y_add
    first | (rw [if_pos w1]; done) | (rw [if_neg w2]; done)
  · skip
    have w1 : S.1 < 20 := Nat.lt_of_not_le (fun z => c_6 ((nI_leI (a := 20) (b := S.1) (by omega) (by omega)).mpr z))
    refine g_aload_n (pc := 9) d_SC_add_9 rfl 0 rfl ?_
    refine g_getR (pc := 10) (ci := 3) (f := 0) (b := vb) rfl r_sc_0 d_SC_add_10 fl_SC_9 (by decide) k_sc ?_
    refine g_aload_n (pc := 13) d_SC_add_13 rfl 0 rfl ?_
    refine g_lgI4 (pc := 14) (ci := 3) (f := 3) rfl d_SC_add_14 fl_SC_21 (by decide) k_sc nd ?_
    refine g_top rS_3 ?_
    refine g_iload_n (pc := 17) d_SC_add_17 rfl 1 rfl ?_
    refine g_lis5 (pc := 18) (j := S.1) d_SC_add_18 k_vb l_vb (by first | assumption | omega) (by decide) nd ?_
    refine g_aload_n (pc := 19) d_SC_add_19 rfl 0 rfl ?_
    refine g_getR (pc := 20) (ci := 3) (f := 1) (b := sb) rfl r_sc_1 d_SC_add_20 fl_SC_15 (by decide) k_sc ?_
    refine g_aload_n (pc := 23) d_SC_add_23 rfl 0 rfl ?_
    refine g_lgI4 (pc := 24) (ci := 3) (f := 3) rfl d_SC_add_24 fl_SC_21 (by decide) k_sc nd ?_
    refine g_top rS_3 ?_
    refine g_iload_n (pc := 27) d_SC_add_27 rfl 2 rfl ?_
    refine g_lis6 (pc := 28) (j := S.1) d_SC_add_28 k_sb l_sb (by first | assumption | omega) (by decide) nd ?_
    refine g_aload_n (pc := 29) d_SC_add_29 rfl 0 rfl ?_
    refine g_getR (pc := 30) (ci := 3) (f := 2) (b := nb) rfl r_sc_2 d_SC_add_30 fl_SC_18 (by decide) k_sc ?_
    refine g_aload_n (pc := 33) d_SC_add_33 rfl 0 rfl ?_
    refine g_lgI4 (pc := 34) (ci := 3) (f := 3) rfl d_SC_add_34 fl_SC_21 (by decide) k_sc nd ?_
    refine g_top rS_3 ?_
    refine g_iload_n (pc := 37) d_SC_add_37 rfl 3 rfl ?_
    refine g_lis7 (pc := 38) (j := S.1) d_SC_add_38 k_nb l_nb (by first | assumption | omega) (by decide) nd ?_
    refine g_aload_n (pc := 39) d_SC_add_39 rfl 0 rfl ?_
    refine g_dup (pc := 40) d_SC_add_40 rfl ?_
    refine g_lgI4 (pc := 41) (ci := 3) (f := 3) rfl d_SC_add_41 fl_SC_21 (by decide) k_sc nd ?_
    refine g_top rS_3 ?_
    refine g_iconst (pc := 44) (v := 1) d_SC_add_44 (by decide) ?_
    refine g_iadd (pc := 45) d_SC_add_45 ?_
    refine g_top (nI_1 S.1) ?_
    refine g_lpE4 (pc := 46) (ci := 3) (f := 3) (hg := rS_p3) rfl d_SC_add_46 fl_SC_21 (fun q hq => by cases hq; exact rfl) rfl rfl (by decide) k_sc nd ?_
    refine g_vret (pc := 49) d_SC_add_49 rfl ?_
    refine ⟨rfl, ?_⟩
    unfold Y_add
    first | (rw [if_pos w1]; done) | (rw [if_neg w2]; done)
set_option maxRecDepth 20000 in
theorem cx_PA_presentVerb {E : En} {h : Hp} {ip bt pa rw sc n : Nat} {F0 T P0 V : Nat → Int32} {q : Ps} {R : List (Nat × (Nat → Int32))} (hI : InOk h ip bt) (hP : PaOk h pa ip rw sc) (nd : (ip :: bt :: pa :: rw :: R.map Prod.fst).Nodup) (hn : n ≤ 500) (hq : TkO n q.1) : CR E m_PA_presentVerb [.ref pa] (wL h ((ip, rF F0 n q.1) :: (bt, T) :: (pa, rP P0 q.2) :: (rw, V) :: R)) (some (.int (Y_verb T q.1))) (wL h ((ip, rF F0 n q.1) :: (bt, T) :: (pa, rP P0 q.2) :: (rw, V) :: R)) := by
  refine ct_of rfl (by decide +kernel) (Nat.le_of_ble_eq_true rfl) ?_
  show G E m_PA_presentVerb 0 [(0, .ref pa)] [] (wL h ((ip, rF F0 n q.1) :: (bt, T) :: (pa, rP P0 q.2) :: (rw, V) :: R)) 0 0 _ noX
  obtain ⟨k_ip, r_ip_0, k_bt, l_bt⟩ := id hI
  obtain ⟨k_pa, r_pa_0, r_pa_1, r_pa_2, k_rw, l_rw⟩ := id hP
  refine g_aload_n (pc := 0) d_PA_presentVerb_0 rfl 0 rfl ?_
  refine g_getR (pc := 1) (ci := 1) (f := 0) (b := ip) rfl r_pa_0 d_PA_presentVerb_1 fl_PA_12 (by decide) k_pa ?_
  refine g_ldcs (pc := 4) d_PA_presentVerb_4 4 rfl ?_
  refine g_cV1 (pc := 6) (ci := 2) (As := [.ref _]) d_PA_presentVerb_6 rfl mv_IN_isWord st_PA_presentVerb_140 rfl rfl (by decide) rfl rfl (Nat.le_of_ble_eq_true rfl) k_ip (cy_IN_isWord hI nd (by decide) hn hq) ?_
  refine g_if_eq (pc := 9) (tgt := 14) d_PA_presentVerb_9 (by decide) (fun c_9 => ?_) (fun c_9 => ?_)
  · skip
    have y4 : ¬ Y_isw T q.1 4 = true := by rw [bI_0.mp c_9]; decide
    refine g_aload_n (pc := 14) d_PA_presentVerb_14 rfl 0 rfl ?_
    refine g_getR (pc := 15) (ci := 1) (f := 0) (b := ip) rfl r_pa_0 d_PA_presentVerb_15 fl_PA_12 (by decide) k_pa ?_
    refine g_ldcs (pc := 18) d_PA_presentVerb_18 5 rfl ?_
    refine g_cV1 (pc := 20) (ci := 2) (As := [.ref _]) d_PA_presentVerb_20 rfl mv_IN_isWord st_PA_presentVerb_140 rfl rfl (by decide) rfl rfl (Nat.le_of_ble_eq_true rfl) k_ip (cy_IN_isWord hI nd (by decide) hn hq) ?_
    refine g_if_eq (pc := 23) (tgt := 28) d_PA_presentVerb_23 (by decide) (fun c_23 => ?_) (fun c_23 => ?_)
    · skip
      have y5 : ¬ Y_isw T q.1 5 = true := by rw [bI_0.mp c_23]; decide
      refine g_aload_n (pc := 28) d_PA_presentVerb_28 rfl 0 rfl ?_
      refine g_getR (pc := 29) (ci := 1) (f := 0) (b := ip) rfl r_pa_0 d_PA_presentVerb_29 fl_PA_12 (by decide) k_pa ?_
      refine g_ldcs (pc := 32) d_PA_presentVerb_32 6 rfl ?_
      refine g_cV1 (pc := 34) (ci := 2) (As := [.ref _]) d_PA_presentVerb_34 rfl mv_IN_isWord st_PA_presentVerb_140 rfl rfl (by decide) rfl rfl (Nat.le_of_ble_eq_true rfl) k_ip (cy_IN_isWord hI nd (by decide) hn hq) ?_
      refine g_if_eq (pc := 37) (tgt := 42) d_PA_presentVerb_37 (by decide) (fun c_37 => ?_) (fun c_37 => ?_)
      · skip
        have y6 : ¬ Y_isw T q.1 6 = true := by rw [bI_0.mp c_37]; decide
        refine g_aload_n (pc := 42) d_PA_presentVerb_42 rfl 0 rfl ?_
        refine g_getR (pc := 43) (ci := 1) (f := 0) (b := ip) rfl r_pa_0 d_PA_presentVerb_43 fl_PA_12 (by decide) k_pa ?_
        refine g_ldcs (pc := 46) d_PA_presentVerb_46 7 rfl ?_
        refine g_cV1 (pc := 48) (ci := 2) (As := [.ref _]) d_PA_presentVerb_48 rfl mv_IN_isWord st_PA_presentVerb_140 rfl rfl (by decide) rfl rfl (Nat.le_of_ble_eq_true rfl) k_ip (cy_IN_isWord hI nd (by decide) hn hq) ?_
        refine g_if_eq (pc := 51) (tgt := 56) d_PA_presentVerb_51 (by decide) (fun c_51 => ?_) (fun c_51 => ?_)
        · skip
          have y7 : ¬ Y_isw T q.1 7 = true := by rw [bI_0.mp c_51]; decide
          refine g_aload_n (pc := 56) d_PA_presentVerb_56 rfl 0 rfl ?_
          refine g_getR (pc := 57) (ci := 1) (f := 0) (b := ip) rfl r_pa_0 d_PA_presentVerb_57 fl_PA_12 (by decide) k_pa ?_
          refine g_ldcs (pc := 60) d_PA_presentVerb_60 8 rfl ?_
          refine g_cV1 (pc := 62) (ci := 2) (As := [.ref _]) d_PA_presentVerb_62 rfl mv_IN_isWord st_PA_presentVerb_140 rfl rfl (by decide) rfl rfl (Nat.le_of_ble_eq_true rfl) k_ip (cy_IN_isWord hI nd (by decide) hn hq) ?_
          refine g_if_eq (pc := 65) (tgt := 70) d_PA_presentVerb_65 (by decide) (fun c_65 => ?_) (fun c_65 => ?_)
          · skip
            have y8 : ¬ Y_isw T q.1 8 = true := by rw [bI_0.mp c_65]; decide
            refine g_aload_n (pc := 70) d_PA_presentVerb_70 rfl 0 rfl ?_
            refine g_getR (pc := 71) (ci := 1) (f := 0) (b := ip) rfl r_pa_0 d_PA_presentVerb_71 fl_PA_12 (by decide) k_pa ?_
            refine g_ldcs (pc := 74) d_PA_presentVerb_74 9 rfl ?_
            refine g_cV1 (pc := 76) (ci := 2) (As := [.ref _]) d_PA_presentVerb_76 rfl mv_IN_isWord st_PA_presentVerb_140 rfl rfl (by decide) rfl rfl (Nat.le_of_ble_eq_true rfl) k_ip (cy_IN_isWord hI nd (by decide) hn hq) ?_
            refine g_if_eq (pc := 79) (tgt := 86) d_PA_presentVerb_79 (by decide) (fun c_79 => ?_) (fun c_79 => ?_)
            · skip
              have y9 : ¬ Y_isw T q.1 9 = true := by rw [bI_0.mp c_79]; decide
              refine g_iconst (pc := 86) (v := (-1)) d_PA_presentVerb_86 (by decide) ?_
              refine g_iret (pc := 87) d_PA_presentVerb_87 rfl ?_
              unfold Y_verb
              rw [if_neg y4, if_neg y5, if_neg y6, if_neg y7, if_neg y8]
              first | (rw [if_pos y9]; exact ⟨rfl, rfl⟩) | (rw [if_neg y9]; exact ⟨rfl, rfl⟩)
            · skip
              have y9 := bI_n0 c_79
              refine g_iconst (pc := 82) (v := 5) d_PA_presentVerb_82 (by decide) ?_
              refine g_goto (pc := 83) (tgt := 87) d_PA_presentVerb_83 (by decide) ?_
              refine g_iret (pc := 87) d_PA_presentVerb_87 rfl ?_
              unfold Y_verb
              rw [if_neg y4, if_neg y5, if_neg y6, if_neg y7, if_neg y8]
              first | (rw [if_pos y9]; exact ⟨rfl, rfl⟩) | (rw [if_neg y9]; exact ⟨rfl, rfl⟩)
          · skip
            have y8 := bI_n0 c_65
            refine g_iconst (pc := 68) (v := 4) d_PA_presentVerb_68 (by decide) ?_
            refine g_iret (pc := 69) d_PA_presentVerb_69 rfl ?_
            unfold Y_verb
            rw [if_neg y4, if_neg y5, if_neg y6, if_neg y7, if_pos y8]
            exact ⟨rfl, rfl⟩
        · skip
          have y7 := bI_n0 c_51
          refine g_iconst (pc := 54) (v := 3) d_PA_presentVerb_54 (by decide) ?_
          refine g_iret (pc := 55) d_PA_presentVerb_55 rfl ?_
          unfold Y_verb
          rw [if_neg y4, if_neg y5, if_neg y6, if_pos y7]
          exact ⟨rfl, rfl⟩
      · skip
        have y6 := bI_n0 c_37
        refine g_iconst (pc := 40) (v := 2) d_PA_presentVerb_40 (by decide) ?_
        refine g_iret (pc := 41) d_PA_presentVerb_41 rfl ?_
        unfold Y_verb
        rw [if_neg y4, if_neg y5, if_pos y6]
        exact ⟨rfl, rfl⟩
    · skip
      have y5 := bI_n0 c_23
      refine g_iconst (pc := 26) (v := 1) d_PA_presentVerb_26 (by decide) ?_
      refine g_iret (pc := 27) d_PA_presentVerb_27 rfl ?_
      unfold Y_verb
      rw [if_neg y4, if_pos y5]
      exact ⟨rfl, rfl⟩
  · skip
    have y4 := bI_n0 c_9
    refine g_iconst (pc := 12) (v := 0) d_PA_presentVerb_12 (by decide) ?_
    refine g_iret (pc := 13) d_PA_presentVerb_13 rfl ?_
    unfold Y_verb
    rw [if_pos y4]
    exact ⟨rfl, rfl⟩
set_option maxRecDepth 20000 in
theorem cx_PA_takeCommandEnd {E : En} {h : Hp} {ip bt pa rw sc n : Nat} {F0 T P0 V : Nat → Int32} {q : Ps} {R : List (Nat × (Nat → Int32))} {vb sb nb : Nat} {S0 : Nat → Int32} {S : Sq} {v1 a1 : Int32} (hI : InOk h ip bt) (hP : PaOk h pa ip rw sc) (hS : ScOk h sc vb sb nb) (nd : (ip :: bt :: pa :: rw :: sc :: vb :: sb :: nb :: R.map Prod.fst).Nodup) (hn : n ≤ 500) (hq : TkO n q.1) (hc : S.1 ≤ 20) : CR E m_PA_takeCommandEnd [.ref pa, .int v1, .int a1] (wL h ((ip, rF F0 n q.1) :: (bt, T) :: (pa, rP P0 q.2) :: (rw, V) :: (sc, rS S0 S.1) :: (vb, S.2.1) :: (sb, S.2.2.1) :: (nb, S.2.2.2) :: R)) (some (.int (bI (Y_end T n v1 a1 q S).1))) (wL h ((ip, rF F0 n (Y_end T n v1 a1 q S).2.1.1) :: (bt, T) :: (pa, rP P0 (Y_end T n v1 a1 q S).2.1.2) :: (rw, V) :: (sc, rS S0 (Y_end T n v1 a1 q S).2.2.1) :: (vb, (Y_end T n v1 a1 q S).2.2.2.1) :: (sb, (Y_end T n v1 a1 q S).2.2.2.2.1) :: (nb, (Y_end T n v1 a1 q S).2.2.2.2.2) :: R)) := by
  refine ct_of rfl (by decide +kernel) (Nat.le_of_ble_eq_true rfl) ?_
  show G E m_PA_takeCommandEnd 0 [(0, .ref pa), (1, .int v1), (2, .int a1)] [] (wL h ((ip, rF F0 n q.1) :: (bt, T) :: (pa, rP P0 q.2) :: (rw, V) :: (sc, rS S0 S.1) :: (vb, S.2.1) :: (sb, S.2.2.1) :: (nb, S.2.2.2) :: R)) 0 0 _ noX
  obtain ⟨k_ip, r_ip_0, k_bt, l_bt⟩ := id hI
  obtain ⟨k_pa, r_pa_0, r_pa_1, r_pa_2, k_rw, l_rw⟩ := id hP
  obtain ⟨k_sc, r_sc_0, r_sc_1, r_sc_2, k_vb, l_vb, k_sb, l_sb, k_nb, l_nb⟩ := id hS
  refine g_aload_n (pc := 0) d_PA_takeCommandEnd_0 rfl 0 rfl ?_
  refine g_getR (pc := 1) (ci := 1) (f := 1) (b := sc) rfl r_pa_1 d_PA_takeCommandEnd_1 fl_PA_21 (by decide) k_pa ?_
  refine g_iload_n (pc := 4) d_PA_takeCommandEnd_4 rfl 1 rfl ?_
  refine g_iload_n (pc := 5) d_PA_takeCommandEnd_5 rfl 2 rfl ?_
  refine g_aload_n (pc := 6) d_PA_takeCommandEnd_6 rfl 0 rfl ?_
  refine g_lgI2 (pc := 7) (ci := 1) (f := 3) rfl d_PA_takeCommandEnd_7 fl_PA_149 (by decide) k_pa nd ?_
  refine g_top rP_3 ?_
  refine g_cV0 (pc := 10) (ci := 3) (As := [.int _, .int _, .int _]) d_PA_takeCommandEnd_10 rfl mv_SC_add st_PA_takeCommandEnd_152 rfl rfl (by decide) rfl rfl (Nat.le_of_ble_eq_true rfl) k_sc (cx_SC_add hI hP hS nd hn hq hc) ?_
  refine g_aload_n (pc := 13) d_PA_takeCommandEnd_13 rfl 0 rfl ?_
  refine g_cV1 (pc := 14) (ci := 1) (As := []) d_PA_takeCommandEnd_14 rfl mv_PA_takeSemicolon st_PA_takeCommandEnd_99 rfl rfl (by decide) rfl rfl (Nat.le_of_ble_eq_true rfl) k_pa (cx_PA_takeSemicolon hI hP nd hn hq) ?_
  refine g_zret (pc := 17) d_PA_takeCommandEnd_17 rfl (by first | rfl | exact nar_bI _) ?_
  exact ⟨rfl, rfl⟩
set_option maxRecDepth 20000 in
theorem cx_PA_takeCommand {E : En} {h : Hp} {ip bt pa rw sc n : Nat} {F0 T P0 V : Nat → Int32} {q : Ps} {R : List (Nat × (Nat → Int32))} {vb sb nb : Nat} {S0 : Nat → Int32} {S : Sq} {c : Int32} (hI : InOk h ip bt) (hP : PaOk h pa ip rw sc) (hS : ScOk h sc vb sb nb) (nd : (ip :: bt :: pa :: rw :: sc :: vb :: sb :: nb :: R.map Prod.fst).Nodup) (hn : n ≤ 500) (hq : TkO n q.1) (hc : S.1 ≤ 20) : CR E m_PA_takeCommand [.ref pa, .int c] (wL h ((ip, rF F0 n q.1) :: (bt, T) :: (pa, rP P0 q.2) :: (rw, V) :: (sc, rS S0 S.1) :: (vb, S.2.1) :: (sb, S.2.2.1) :: (nb, S.2.2.2) :: R)) (some (.int (bI (Y_cmd T n c q S).1))) (wL h ((ip, rF F0 n (Y_cmd T n c q S).2.1.1) :: (bt, T) :: (pa, rP P0 (Y_cmd T n c q S).2.1.2) :: (rw, V) :: (sc, rS S0 (Y_cmd T n c q S).2.2.1) :: (vb, (Y_cmd T n c q S).2.2.2.1) :: (sb, (Y_cmd T n c q S).2.2.2.2.1) :: (nb, (Y_cmd T n c q S).2.2.2.2.2) :: R)) := by
  refine ct_of rfl (by decide +kernel) (Nat.le_of_ble_eq_true rfl) ?_
  show G E m_PA_takeCommand 0 [(0, .ref pa), (1, .int c)] [] (wL h ((ip, rF F0 n q.1) :: (bt, T) :: (pa, rP P0 q.2) :: (rw, V) :: (sc, rS S0 S.1) :: (vb, S.2.1) :: (sb, S.2.2.1) :: (nb, S.2.2.2) :: R)) 0 0 _ noX
  obtain ⟨k_ip, r_ip_0, k_bt, l_bt⟩ := id hI
  obtain ⟨k_pa, r_pa_0, r_pa_1, r_pa_2, k_rw, l_rw⟩ := id hP
  obtain ⟨k_sc, r_sc_0, r_sc_1, r_sc_2, k_vb, l_vb, k_sb, l_sb, k_nb, l_nb⟩ := id hS
  unfold Y_cmd
  refine g_aload_n (pc := 0) d_PA_takeCommand_0 rfl 0 rfl ?_
  refine g_cV1 (pc := 1) (ci := 1) (As := []) d_PA_takeCommand_1 rfl mv_PA_presentVerb st_PA_takeCommand_68 rfl rfl (by decide) rfl rfl (Nat.le_of_ble_eq_true rfl) k_pa (cx_PA_presentVerb hI hP nd hn hq) ?_
  refine g_istore_n (pc := 4) (lv' := [(2, .int (Y_verb T q.1)), (0, .ref pa), (1, .int c)]) d_PA_takeCommand_4 rfl (by decide) rfl ?_
  refine g_iload_n (pc := 5) d_PA_takeCommand_5 rfl 0 rfl ?_
  refine g_iconst (pc := 6) (v := (-1)) d_PA_takeCommand_6 (by decide) ?_
  refine g_icmp_ne (pc := 7) (tgt := 16) d_PA_takeCommand_7 (by decide) (fun c_7 => ?_) (fun c_7 => ?_)
  · skip
    rw [if_neg c_7]
    refine g_aload_n (pc := 16) d_PA_takeCommand_16 rfl 1 rfl ?_
    refine g_getR (pc := 17) (ci := 1) (f := 0) (b := ip) rfl r_pa_0 d_PA_takeCommand_17 fl_PA_12 (by decide) k_pa ?_
    refine g_cV0 (pc := 20) (ci := 2) (As := []) d_PA_takeCommand_20 rfl mv_IN_readNext st_PA_takeCommand_129 rfl rfl (by decide) rfl rfl (Nat.le_of_ble_eq_true rfl) k_ip (cy_IN_readNext hI nd hn hq) ?_
    refine g_h (h' := wL h ((ip, rF F0 n (Y_next T n q).1) :: (bt, T) :: (pa, rP P0 (Y_next T n q).2) :: (rw, V) :: (sc, rS S0 S.1) :: (vb, S.2.1) :: (sb, S.2.2.1) :: (nb, S.2.2.2) :: R)) rfl ?_
    generalize hq1 : Y_next T n q = q1 at *
    have tq1 : TkO n q1.1 := by rw [← hq1]; exact TkO_next hq
    refine g_iload_n (pc := 23) d_PA_takeCommand_23 rfl 0 rfl ?_
    refine g_if_ne (pc := 24) (tgt := 52) d_PA_takeCommand_24 (by decide) (fun c_24 => ?_) (fun c_24 => ?_)
    · skip
      rw [if_neg c_24]
      refine g_aload_n (pc := 52) d_PA_takeCommand_52 rfl 1 rfl ?_
      refine g_iconst (pc := 53) (v := 0) d_PA_takeCommand_53 (by decide) ?_
      refine g_iload_n (pc := 54) d_PA_takeCommand_54 rfl 2 rfl ?_
      refine g_iconst (pc := 55) (v := 1) d_PA_takeCommand_55 (by decide) ?_
      refine g_isub (pc := 56) d_PA_takeCommand_56 ?_
      refine g_cV1 (pc := 57) (ci := 1) (As := [.int _, .int _]) d_PA_takeCommand_57 rfl mv_PA_takeNumber st_PA_takeCommand_143 rfl rfl (by decide) rfl rfl (Nat.le_of_ble_eq_true rfl) k_pa (cx_PA_takeNumber hI hP nd hn tq1) ?_
      generalize hz1 : (Y_num T n 0 (c - 1) q1) = z1 at *
      have tz1 : TkO n z1.2.1 := by rw [← hz1]; exact TkO_num tq1
      refine g_if_ne (pc := 60) (tgt := 65) d_PA_takeCommand_60 (by decide) (fun c_60 => ?_) (fun c_60 => ?_)
      · skip
        rw [if_pos (bI_n0 c_60)]
        refine g_aload_n (pc := 65) d_PA_takeCommand_65 rfl 1 rfl ?_
        refine g_lgI2 (pc := 66) (ci := 1) (f := 3) rfl d_PA_takeCommand_66 fl_PA_149 (by decide) k_pa nd ?_
        refine g_top rP_3 ?_
        refine g_istore_n (pc := 69) (lv' := [(3, .int z1.2.2.1), (2, .int (Y_verb T q.1)), (0, .ref pa), (1, .int c)]) d_PA_takeCommand_69 rfl (by decide) rfl ?_
        refine g_iload_n (pc := 70) d_PA_takeCommand_70 rfl 1 rfl ?_
        refine g_iconst (pc := 71) (v := 3) d_PA_takeCommand_71 (by decide) ?_
        refine g_icmp_ne (pc := 72) (tgt := 87) d_PA_takeCommand_72 (by decide) (fun c_72 => ?_) (fun c_72 => ?_)
        · skip
          rw [if_neg c_72]
          refine g_aload_n (pc := 87) d_PA_takeCommand_87 rfl 2 rfl ?_
          refine g_iload_n (pc := 88) d_PA_takeCommand_88 rfl 1 rfl ?_
          refine g_iload_n (pc := 89) d_PA_takeCommand_89 rfl 0 rfl ?_
          refine g_cV1 (pc := 90) (ci := 1) (As := [.int _, .int _]) d_PA_takeCommand_90 rfl mv_PA_takeCommandEnd st_PA_takeCommand_146 rfl rfl (by decide) rfl rfl (Nat.le_of_ble_eq_true rfl) k_pa (cx_PA_takeCommandEnd hI hP hS nd hn (by assumption) hc) ?_
          refine g_zret (pc := 93) d_PA_takeCommand_93 rfl (by first | rfl | exact nar_bI _) ?_
          exact ⟨rfl, rfl⟩
        · skip
          rw [if_pos c_72]
          refine g_aload_n (pc := 75) d_PA_takeCommand_75 rfl 2 rfl ?_
          refine g_iconst (pc := 76) (v := 0) d_PA_takeCommand_76 (by decide) ?_
          refine g_bipush (pc := 77) (v := 100) d_PA_takeCommand_77 (by decide) ?_
          refine g_cV1 (pc := 79) (ci := 1) (As := [.int _, .int _]) d_PA_takeCommand_79 rfl mv_PA_takeNumber st_PA_takeCommand_143 rfl rfl (by decide) rfl rfl (Nat.le_of_ble_eq_true rfl) k_pa (cx_PA_takeNumber hI hP nd hn tz1) ?_
          generalize hz2 : Y_num T n 0 100 z1.2 = z2 at *
          have tz2 : TkO n z2.2.1 := by rw [← hz2]; exact TkO_num tz1
          refine g_if_ne (pc := 82) (tgt := 87) d_PA_takeCommand_82 (by decide) (fun c_82 => ?_) (fun c_82 => ?_)
          · skip
            rw [if_pos (bI_n0 c_82)]
            refine g_aload_n (pc := 87) d_PA_takeCommand_87 rfl 2 rfl ?_
            refine g_iload_n (pc := 88) d_PA_takeCommand_88 rfl 1 rfl ?_
            refine g_iload_n (pc := 89) d_PA_takeCommand_89 rfl 0 rfl ?_
            refine g_cV1 (pc := 90) (ci := 1) (As := [.int _, .int _]) d_PA_takeCommand_90 rfl mv_PA_takeCommandEnd st_PA_takeCommand_146 rfl rfl (by decide) rfl rfl (Nat.le_of_ble_eq_true rfl) k_pa (cx_PA_takeCommandEnd hI hP hS nd hn (by assumption) hc) ?_
            refine g_zret (pc := 93) d_PA_takeCommand_93 rfl (by first | rfl | exact nar_bI _) ?_
            exact ⟨rfl, rfl⟩
          · skip
            rw [if_neg (by rw [bI_0.mp c_82]; decide)]
            refine g_iconst (pc := 85) (v := 0) d_PA_takeCommand_85 (by decide) ?_
            refine g_zret (pc := 86) d_PA_takeCommand_86 rfl (by first | rfl | exact nar_bI _) ?_
            exact ⟨rfl, rfl⟩
      · skip
        rw [if_neg (by rw [bI_0.mp c_60]; decide)]
        refine g_iconst (pc := 63) (v := 0) d_PA_takeCommand_63 (by decide) ?_
        refine g_zret (pc := 64) d_PA_takeCommand_64 rfl (by first | rfl | exact nar_bI _) ?_
        exact ⟨rfl, rfl⟩
    · skip
      rw [if_pos c_24]
      refine g_aload_n (pc := 27) d_PA_takeCommand_27 rfl 1 rfl ?_
      refine g_iconst (pc := 28) (v := 1) d_PA_takeCommand_28 (by decide) ?_
      refine g_bipush (pc := 29) (v := 100) d_PA_takeCommand_29 (by decide) ?_
      refine g_cV1 (pc := 31) (ci := 1) (As := [.int _, .int _]) d_PA_takeCommand_31 rfl mv_PA_takeNumber st_PA_takeCommand_143 rfl rfl (by decide) rfl rfl (Nat.le_of_ble_eq_true rfl) k_pa (cx_PA_takeNumber hI hP nd hn tq1) ?_
      generalize hz1 : (Y_num T n 1 100 q1) = z1 at *
      have tz1 : TkO n z1.2.1 := by rw [← hz1]; exact TkO_num tq1
      refine g_if_eq (pc := 34) (tgt := 50) d_PA_takeCommand_34 (by decide) (fun c_34 => ?_) (fun c_34 => ?_)
      · skip
        rw [if_neg (by rw [bI_0.mp c_34]; decide)]
        refine g_iconst (pc := 50) (v := 0) d_PA_takeCommand_50 (by decide) ?_
        refine g_zret (pc := 51) d_PA_takeCommand_51 rfl (by first | rfl | exact nar_bI _) ?_
        first | (rw [w3]; exact ⟨rfl, rfl⟩) | exact ⟨rfl, rfl⟩
      · skip
        rw [if_pos (bI_n0 c_34)]
        refine g_aload_n (pc := 37) d_PA_takeCommand_37 rfl 1 rfl ?_
        refine g_iload_n (pc := 38) d_PA_takeCommand_38 rfl 0 rfl ?_
        refine g_iconst (pc := 39) (v := 0) d_PA_takeCommand_39 (by decide) ?_
        refine g_cV1 (pc := 40) (ci := 1) (As := [.int _, .int _]) d_PA_takeCommand_40 rfl mv_PA_takeCommandEnd st_PA_takeCommand_146 rfl rfl (by decide) rfl rfl (Nat.le_of_ble_eq_true rfl) k_pa (cx_PA_takeCommandEnd hI hP hS nd hn tz1 hc) ?_
        refine g_if_eq (pc := 43) (tgt := 50) d_PA_takeCommand_43 (by decide) (fun c_43 => ?_) (fun c_43 => ?_)
        · skip
          have w3 := bI_0.mp c_43
          refine g_iconst (pc := 50) (v := 0) d_PA_takeCommand_50 (by decide) ?_
          refine g_zret (pc := 51) d_PA_takeCommand_51 rfl (by first | rfl | exact nar_bI _) ?_
          first | (rw [w3]; exact ⟨rfl, rfl⟩) | exact ⟨rfl, rfl⟩
        · skip
          have w3 := bI_n0 c_43
          refine g_iconst (pc := 46) (v := 1) d_PA_takeCommand_46 (by decide) ?_
          refine g_goto (pc := 47) (tgt := 51) d_PA_takeCommand_47 (by decide) ?_
          refine g_zret (pc := 51) d_PA_takeCommand_51 rfl (by first | rfl | exact nar_bI _) ?_
          first | (rw [w3]; exact ⟨rfl, rfl⟩) | exact ⟨rfl, rfl⟩
  · skip
    rw [if_pos c_7]
    refine g_aload_n (pc := 10) d_PA_takeCommand_10 rfl 1 rfl ?_
    refine g_iconst (pc := 11) (v := 1) d_PA_takeCommand_11 (by decide) ?_
    refine g_cV1 (pc := 12) (ci := 1) (As := [.int _]) d_PA_takeCommand_12 rfl mv_PA_fail st_PA_takeCommand_72 rfl rfl (by decide) rfl rfl (Nat.le_of_ble_eq_true rfl) k_pa (cx_PA_fail hI hP nd hn hq) ?_
    refine g_zret (pc := 15) d_PA_takeCommand_15 rfl (by first | rfl | exact nar_bI _) ?_
    exact ⟨rfl, rfl⟩
theorem lp_PA_readScript {E : En} {h : Hp} {ip bt pa rw sc n : Nat} {F0 T P0 V : Nat → Int32} {R : List (Nat × (Nat → Int32))} {vb sb nb : Nat} {S0 : Nat → Int32} {c : Int32} (hI : InOk h ip bt) (hP : PaOk h pa ip rw sc) (hS : ScOk h sc vb sb nb) (nd : (ip :: bt :: pa :: rw :: sc :: vb :: sb :: nb :: R.map Prod.fst).Nodup) (hn : n ≤ 500) : ∀ (d i : Nat) (q : Ps) (S : Sq), i ≤ 20 → TkO n q.1 → S.1 ≤ 20 → 20 - i < d → G E m_PA_readScript 14 [(2, .int (nI i)), (0, .ref pa), (1, .int c)] [] (wL h ((ip, rF F0 n q.1) :: (bt, T) :: (pa, rP P0 q.2) :: (rw, V) :: (sc, rS S0 S.1) :: (vb, S.2.1) :: (sb, S.2.2.1) :: (nb, S.2.2.2) :: R)) 0 0 (fun v1 h1 => v1 = some (.int (bI (Y_cmds T n c (20 - i) q S).1)) ∧ h1 = wL h ((ip, rF F0 n (Y_cmds T n c (20 - i) q S).2.1.1) :: (bt, T) :: (pa, rP P0 (Y_cmds T n c (20 - i) q S).2.1.2) :: (rw, V) :: (sc, rS S0 (Y_cmds T n c (20 - i) q S).2.2.1) :: (vb, (Y_cmds T n c (20 - i) q S).2.2.2.1) :: (sb, (Y_cmds T n c (20 - i) q S).2.2.2.2.1) :: (nb, (Y_cmds T n c (20 - i) q S).2.2.2.2.2) :: R)) noX := by
  obtain ⟨k_ip, r_ip_0, k_bt, l_bt⟩ := id hI
  obtain ⟨k_pa, r_pa_0, r_pa_1, r_pa_2, k_rw, l_rw⟩ := id hP
  obtain ⟨k_sc, r_sc_0, r_sc_1, r_sc_2, k_vb, l_vb, k_sb, l_sb, k_nb, l_nb⟩ := id hS
  intro d
  induction d with
  | zero => intros; omega
  | succ d ih =>
    intro i q S hi hq hc hd
    refine g_iload_n (pc := 14) d_PA_readScript_14 rfl 0 rfl ?_
    refine g_bipush (pc := 15) (v := 20) d_PA_readScript_15 (by decide) ?_
    refine g_icmp_ge (pc := 17) (tgt := 48) d_PA_readScript_17 (by decide) (fun c_17 => ?_) (fun c_17 => ?_)
    · skip
      have e9 : 20 - i = 0 := by have := (nI_leI (a := 20) (b := i) (by omega) (by omega)).mp c_17; omega
      refine g_aload_n (pc := 48) d_PA_readScript_48 rfl 1 rfl ?_
      refine g_getR (pc := 49) (ci := 1) (f := 0) (b := ip) rfl r_pa_0 d_PA_readScript_49 fl_PA_12 (by decide) k_pa ?_
      refine g_lgI0 (pc := 52) (ci := 2) (f := 2) rfl d_PA_readScript_52 fl_PA_61 (by decide) k_ip nd ?_
      refine g_top rF_2 ?_
      refine g_if_eq (pc := 55) (tgt := 78) d_PA_readScript_55 (by decide) (fun c_55 => ?_) (fun c_55 => ?_)
      · skip
        have k0 : q.1.1 = 0 := nI_inj (b := 0) (by have := hq.1; omega) (by decide) c_55
        refine g_iconst (pc := 78) (v := 1) d_PA_readScript_78 (by decide) ?_
        refine g_goto (pc := 79) (tgt := 83) d_PA_readScript_79 (by decide) ?_
        refine g_zret (pc := 83) d_PA_readScript_83 rfl (by first | rfl | exact nar_bI _) ?_
        rw [e9, Y_cmds]
        first | (rw [if_pos k0]; exact ⟨rfl, rfl⟩) | (rw [if_neg k0, if_pos c_64]; exact ⟨rfl, rfl⟩) | (rw [if_neg k0, if_neg c_64]; exact ⟨rfl, rfl⟩)
      · skip
        have k0 : ¬ q.1.1 = 0 := fun z => c_55 (by rw [z]; rfl)
        refine g_aload_n (pc := 58) d_PA_readScript_58 rfl 1 rfl ?_
        refine g_aload_n (pc := 59) d_PA_readScript_59 rfl 1 rfl ?_
        refine g_cV1 (pc := 60) (ci := 1) (As := []) d_PA_readScript_60 rfl mv_PA_presentVerb st_PA_readScript_68 rfl rfl (by decide) rfl rfl (Nat.le_of_ble_eq_true rfl) k_pa (cx_PA_presentVerb hI hP nd hn hq) ?_
        refine g_iconst (pc := 63) (v := (-1)) d_PA_readScript_63 (by decide) ?_
        refine g_icmp_ne (pc := 64) (tgt := 71) d_PA_readScript_64 (by decide) (fun c_64 => ?_) (fun c_64 => ?_)
        · skip
          refine g_iconst (pc := 71) (v := 4) d_PA_readScript_71 (by decide) ?_
          refine g_cV1 (pc := 72) (ci := 1) (As := [.int _]) d_PA_readScript_72 rfl mv_PA_fail st_PA_readScript_72 rfl rfl (by decide) rfl rfl (Nat.le_of_ble_eq_true rfl) k_pa (cx_PA_fail hI hP nd hn hq) ?_
          refine g_if_eq (pc := 75) (tgt := 82) d_PA_readScript_75 (by decide) (fun c_75 => ?_) (fun c_75 => ?_)
          · skip
            refine g_iconst (pc := 82) (v := 0) d_PA_readScript_82 (by decide) ?_
            refine g_zret (pc := 83) d_PA_readScript_83 rfl (by first | rfl | exact nar_bI _) ?_
            rw [e9, Y_cmds]
            first | (rw [if_pos k0]; exact ⟨rfl, rfl⟩) | (rw [if_neg k0, if_pos c_64]; exact ⟨rfl, rfl⟩) | (rw [if_neg k0, if_neg c_64]; exact ⟨rfl, rfl⟩)
          · exact absurd rfl c_75
        · skip
          refine g_iconst (pc := 67) (v := 1) d_PA_readScript_67 (by decide) ?_
          refine g_goto (pc := 68) (tgt := 72) d_PA_readScript_68 (by decide) ?_
          refine g_cV1 (pc := 72) (ci := 1) (As := [.int _]) d_PA_readScript_72 rfl mv_PA_fail st_PA_readScript_72 rfl rfl (by decide) rfl rfl (Nat.le_of_ble_eq_true rfl) k_pa (cx_PA_fail hI hP nd hn hq) ?_
          refine g_if_eq (pc := 75) (tgt := 82) d_PA_readScript_75 (by decide) (fun c_75 => ?_) (fun c_75 => ?_)
          · skip
            refine g_iconst (pc := 82) (v := 0) d_PA_readScript_82 (by decide) ?_
            refine g_zret (pc := 83) d_PA_readScript_83 rfl (by first | rfl | exact nar_bI _) ?_
            rw [e9, Y_cmds]
            first | (rw [if_pos k0]; exact ⟨rfl, rfl⟩) | (rw [if_neg k0, if_pos c_64]; exact ⟨rfl, rfl⟩) | (rw [if_neg k0, if_neg c_64]; exact ⟨rfl, rfl⟩)
          · exact absurd rfl c_75
    · skip
      have e9 : i < 20 := Nat.lt_of_not_le (fun z => c_17 ((nI_leI (a := 20) (b := i) (by omega) (by omega)).mpr z))
      refine g_aload_n (pc := 20) d_PA_readScript_20 rfl 1 rfl ?_
      refine g_getR (pc := 21) (ci := 1) (f := 0) (b := ip) rfl r_pa_0 d_PA_readScript_21 fl_PA_12 (by decide) k_pa ?_
      refine g_lgI0 (pc := 24) (ci := 2) (f := 2) rfl d_PA_readScript_24 fl_PA_61 (by decide) k_ip nd ?_
      refine g_top rF_2 ?_
      refine g_if_ne (pc := 27) (tgt := 32) d_PA_readScript_27 (by decide) (fun c_27 => ?_) (fun c_27 => ?_)
      · skip
        have k0 : ¬ q.1.1 = 0 := fun z => c_27 (by rw [z]; rfl)
        refine g_aload_n (pc := 32) d_PA_readScript_32 rfl 1 rfl ?_
        refine g_iload_n (pc := 33) d_PA_readScript_33 rfl 2 rfl ?_
        refine g_cV1 (pc := 34) (ci := 1) (As := [.int _]) d_PA_readScript_34 rfl mv_PA_takeCommand st_PA_readScript_64 rfl rfl (by decide) rfl rfl (Nat.le_of_ble_eq_true rfl) k_pa (cx_PA_takeCommand hI hP hS nd hn hq hc) ?_
        refine g_if_ne (pc := 37) (tgt := 42) d_PA_readScript_37 (by decide) (fun c_37 => ?_) (fun c_37 => ?_)
        · skip
          have w1 := bI_n0 c_37
          obtain ⟨x_1, hx_1⟩ : ∃ y : Int32, y = (nI i) + 1 := ⟨_, rfl⟩
          refine g_iinc (pc := 42) (w := 0) (v := x_1) (lv' := [(2, .int x_1), (0, .ref pa), (1, .int c)]) d_PA_readScript_42 rfl (by rw [hx_1]; rfl) (by decide) rfl ?_
          refine g_goto (pc := 45) (tgt := 14) d_PA_readScript_45 (by decide) ?_
          have e8 : x_1 = nI (i + 1) := by rw [hx_1]; exact nI_1 _
          clear hx_1
          subst e8
          refine g_perm [0, 1, 2] rfl ?_
          rw [show 20 - i = (20 - (i + 1)) + 1 by omega, Y_cmds, if_neg k0, if_pos w1]
          exact ih (i + 1) _ _ (by omega) (TkO_cmd hq) (le_cmd hc) (by omega)
        · skip
          have w2 : ¬ (Y_cmd T n c q S).1 = true := by rw [bI_0.mp c_37]; decide
          refine g_iconst (pc := 40) (v := 0) d_PA_readScript_40 (by decide) ?_
          refine g_zret (pc := 41) d_PA_readScript_41 rfl (by first | rfl | exact nar_bI _) ?_
          rw [show 20 - i = (20 - (i + 1)) + 1 by omega, Y_cmds, if_neg k0, if_neg w2]
          exact ⟨rfl, rfl⟩
      · skip
        have k0 : q.1.1 = 0 := nI_inj (b := 0) (by have := hq.1; omega) (by decide) c_27
        refine g_iconst (pc := 30) (v := 1) d_PA_readScript_30 (by decide) ?_
        refine g_zret (pc := 31) d_PA_readScript_31 rfl (by first | rfl | exact nar_bI _) ?_
        rw [show 20 - i = (20 - (i + 1)) + 1 by omega, Y_cmds, if_pos k0]
        exact ⟨rfl, rfl⟩
def Y_script (T : Nat → Int32) (n : Nat) (c : Int32) (q : Ps) (S : Sq) : Bool × Ps × Sq := Y_cmds T n c 20 (Y_start T n q) (0, S.2)
set_option maxRecDepth 20000 in
theorem cx_PA_readScript {E : En} {h : Hp} {ip bt pa rw sc n : Nat} {F0 T P0 V : Nat → Int32} {q : Ps} {R : List (Nat × (Nat → Int32))} {vb sb nb : Nat} {S0 : Nat → Int32} {S : Sq} {c : Int32} (hI : InOk h ip bt) (hP : PaOk h pa ip rw sc) (hS : ScOk h sc vb sb nb) (nd : (ip :: bt :: pa :: rw :: sc :: vb :: sb :: nb :: R.map Prod.fst).Nodup) (hn : n ≤ 500) : CR E m_PA_readScript [.ref pa, .int c] (wL h ((ip, rF F0 n q.1) :: (bt, T) :: (pa, rP P0 q.2) :: (rw, V) :: (sc, rS S0 S.1) :: (vb, S.2.1) :: (sb, S.2.2.1) :: (nb, S.2.2.2) :: R)) (some (.int (bI (Y_script T n c q S).1))) (wL h ((ip, rF F0 n (Y_script T n c q S).2.1.1) :: (bt, T) :: (pa, rP P0 (Y_script T n c q S).2.1.2) :: (rw, V) :: (sc, rS S0 (Y_script T n c q S).2.2.1) :: (vb, (Y_script T n c q S).2.2.2.1) :: (sb, (Y_script T n c q S).2.2.2.2.1) :: (nb, (Y_script T n c q S).2.2.2.2.2) :: R)) := by
  refine ct_of rfl (by decide +kernel) (Nat.le_of_ble_eq_true rfl) ?_
  show G E m_PA_readScript 0 [(0, .ref pa), (1, .int c)] [] (wL h ((ip, rF F0 n q.1) :: (bt, T) :: (pa, rP P0 q.2) :: (rw, V) :: (sc, rS S0 S.1) :: (vb, S.2.1) :: (sb, S.2.2.1) :: (nb, S.2.2.2) :: R)) 0 0 _ noX
  obtain ⟨k_ip, r_ip_0, k_bt, l_bt⟩ := id hI
  obtain ⟨k_pa, r_pa_0, r_pa_1, r_pa_2, k_rw, l_rw⟩ := id hP
  obtain ⟨k_sc, r_sc_0, r_sc_1, r_sc_2, k_vb, l_vb, k_sb, l_sb, k_nb, l_nb⟩ := id hS
  refine g_aload_n (pc := 0) d_PA_readScript_0 rfl 0 rfl ?_
  refine g_cV0 (pc := 1) (ci := 1) (As := []) d_PA_readScript_1 rfl mv_PA_start st_PA_readScript_46 rfl rfl (by decide) rfl rfl (Nat.le_of_ble_eq_true rfl) k_pa (cx_PA_start hI hP nd hn) ?_
  refine g_aload_n (pc := 4) d_PA_readScript_4 rfl 0 rfl ?_
  refine g_getR (pc := 5) (ci := 1) (f := 1) (b := sc) rfl r_pa_1 d_PA_readScript_5 fl_PA_21 (by decide) k_pa ?_
  refine g_iconst (pc := 8) (v := 0) d_PA_readScript_8 (by decide) ?_
  refine g_lpE4 (pc := 9) (ci := 3) (f := 3) (hg := (rS_p3 (x := 0))) rfl d_PA_readScript_9 fl_PA_58 (fun q hq => by cases hq; exact rfl) rfl rfl (by decide) k_sc nd ?_
  refine g_iconst (pc := 12) (v := 0) d_PA_readScript_12 (by decide) ?_
  refine g_nameI (fun x_1 hx_1 => ?_)
  refine g_istore_n (pc := 13) (lv' := [(2, .int x_1), (0, .ref pa), (1, .int c)]) d_PA_readScript_13 rfl (by decide) rfl ?_
  subst hx_1
  exact lp_PA_readScript hI hP hS nd hn 21 0 (Y_start T n q) (0, S.2) (Nat.zero_le _) TkO_start (Nat.zero_le _) (by omega)
set_option maxRecDepth 20000 in
theorem cx_PA_takeWeight {E : En} {h : Hp} {ip bt pa rw sc n : Nat} {F0 T P0 V : Nat → Int32} {q : Ps} {R : List (Nat × (Nat → Int32))} {b nw : Nat} {B : Bu} (hI : InOk h ip bt) (hP : PaOk h pa ip rw sc) (nd : (ip :: bt :: pa :: rw :: R.map Prod.fst).Nodup) (hn : n ≤ 500) (hq : TkO n q.1) (hB : BuOk h b) (fo : ∀ a, a ∈ ip :: bt :: pa :: rw :: R.map Prod.fst → Fo h b a) (hw : B.1 7 = nI nw) (hnw : nw ≤ 6) : CR E m_PA_takeWeight [.ref pa, .ref b] (wL (wB h b B) ((ip, rF F0 n q.1) :: (bt, T) :: (pa, rP P0 q.2) :: (rw, V) :: R)) (some (.int (bI (Y_weight T n q B nw).1))) (wL (wB h b (Y_weight T n q B nw).2.2.1) ((ip, rF F0 n (Y_weight T n q B nw).2.1.1) :: (bt, T) :: (pa, rP P0 (Y_weight T n q B nw).2.1.2) :: (rw, V) :: R)) := by
  refine ct_of rfl (by decide +kernel) (Nat.le_of_ble_eq_true rfl) ?_
  show G E m_PA_takeWeight 0 [(0, .ref pa), (1, .ref b)] [] (wL (wB h b B) ((ip, rF F0 n q.1) :: (bt, T) :: (pa, rP P0 q.2) :: (rw, V) :: R)) 0 0 _ noX
  obtain ⟨k_ip, r_ip_0, k_bt, l_bt⟩ := id hI
  obtain ⟨k_pa, r_pa_0, r_pa_1, r_pa_2, k_rw, l_rw⟩ := id hP
  refine g_aload_n (pc := 0) d_PA_takeWeight_0 rfl 0 rfl ?_
  refine g_iconst (pc := 1) (v := 1) d_PA_takeWeight_1 (by decide) ?_
  refine g_sipush (pc := 2) (v := 5000) d_PA_takeWeight_2 (by decide) ?_
  refine g_cV1 (pc := 5) (ci := 1) (As := [.int _, .int _]) d_PA_takeWeight_5 rfl mv_PA_isNumberWithin st_PA_takeWeight_112 rfl rfl (by decide) rfl rfl (Nat.le_of_ble_eq_true rfl) k_pa (cx_PA_isNumberWithin hI hP nd hn hq) ?_
  refine g_if_ne (pc := 8) (tgt := 13) d_PA_takeWeight_8 (by decide) (fun c_8 => ?_) (fun c_8 => ?_)
  · skip
    have w1 := bI_n0 c_8
    rw [Y_in_t w1]
    refine g_aload_n (pc := 13) d_PA_takeWeight_13 rfl 1 rfl ?_
    refine g_aload_n (pc := 14) d_PA_takeWeight_14 rfl 0 rfl ?_
    refine g_getR (pc := 15) (ci := 1) (f := 0) (b := ip) rfl r_pa_0 d_PA_takeWeight_15 fl_PA_12 (by decide) k_pa ?_
    refine g_lgI0 (pc := 18) (ci := 2) (f := 5) rfl d_PA_takeWeight_18 fl_PA_116 (by decide) k_ip nd ?_
    refine g_top rF_5 ?_
    refine g_h (wB_wL (by exact fo)).symm ?_
    refine g_cV1 (pc := 21) (ci := 4) (As := [.int _]) d_PA_takeWeight_21 rfl mv_BU_hasWeight st_PA_takeWeight_119 rfl rfl (by decide) rfl rfl (Nat.le_of_ble_eq_true rfl) hB.1 (cb_hasWeight hB hw hnw) ?_
    refine g_h (wB_wL (by exact fo)) ?_
    refine g_if_eq (pc := 24) (tgt := 33) d_PA_takeWeight_24 (by decide) (fun c_24 => ?_) (fun c_24 => ?_)
    · skip
      have w3 : ¬ P_has B.2.1 q.1.2.2.2 nw = true := by rw [bI_0.mp c_24]; decide
      refine g_aload_n (pc := 33) d_PA_takeWeight_33 rfl 1 rfl ?_
      refine g_h (wB_wL (by exact fo)).symm ?_
      refine g_bgI (pc := 34) (f := 7) rfl d_PA_takeWeight_34 fl_PA_122 hB ?_
      refine g_h (wB_wL (by exact fo)) ?_
      refine g_top hw ?_
      refine g_bipush (pc := 37) (v := 6) d_PA_takeWeight_37 (by decide) ?_
      refine g_icmp_lt (pc := 39) (tgt := 48) d_PA_takeWeight_39 (by decide) (fun c_39 => ?_) (fun c_39 => ?_)
      · skip
        have w5 : nw < 6 := Nat.lt_of_not_le (fun z => (Int32.not_le.mpr c_39) ((nI_leI (a := 6) (b := nw) (by omega) (by omega)).mpr z))
        refine g_aload_n (pc := 48) d_PA_takeWeight_48 rfl 1 rfl ?_
        refine g_aload_n (pc := 49) d_PA_takeWeight_49 rfl 0 rfl ?_
        refine g_getR (pc := 50) (ci := 1) (f := 0) (b := ip) rfl r_pa_0 d_PA_takeWeight_50 fl_PA_12 (by decide) k_pa ?_
        refine g_lgI0 (pc := 53) (ci := 2) (f := 5) rfl d_PA_takeWeight_53 fl_PA_116 (by decide) k_ip nd ?_
        refine g_top rF_5 ?_
        refine g_h (wB_wL (by exact fo)).symm ?_
        refine g_cV0 (pc := 56) (ci := 4) (As := [.int _]) d_PA_takeWeight_56 rfl mv_BU_addWeight st_PA_takeWeight_125 rfl rfl (by decide) rfl rfl (Nat.le_of_ble_eq_true rfl) hB.1 (cb_addWeight hB hw w5) ?_
        refine g_h (wB_wL (by exact fo)) ?_
        refine g_aload_n (pc := 59) d_PA_takeWeight_59 rfl 0 rfl ?_
        refine g_getR (pc := 60) (ci := 1) (f := 0) (b := ip) rfl r_pa_0 d_PA_takeWeight_60 fl_PA_12 (by decide) k_pa ?_
        refine g_cV0 (pc := 63) (ci := 2) (As := []) d_PA_takeWeight_63 rfl mv_IN_readNext st_PA_takeWeight_129 rfl rfl (by decide) rfl rfl (Nat.le_of_ble_eq_true rfl) k_ip (cy_IN_readNext hI nd hn hq) ?_
        refine g_iconst (pc := 66) (v := 1) d_PA_takeWeight_66 (by decide) ?_
        refine g_zret (pc := 67) d_PA_takeWeight_67 rfl (by first | rfl | exact nar_bI _) ?_
        unfold Y_weight
        rw [if_pos w1, if_neg w3, if_pos w5]
        exact ⟨rfl, rfl⟩
      · skip
        have w5 : ¬ nw < 6 := fun z => c_39 (nI_lt (a := nw) (b := 6) z (by omega))
        refine g_aload_n (pc := 42) d_PA_takeWeight_42 rfl 0 rfl ?_
        refine g_iconst (pc := 43) (v := 4) d_PA_takeWeight_43 (by decide) ?_
        refine g_cV1 (pc := 44) (ci := 1) (As := [.int _]) d_PA_takeWeight_44 rfl mv_PA_fail st_PA_takeWeight_72 rfl rfl (by decide) rfl rfl (Nat.le_of_ble_eq_true rfl) k_pa (cx_PA_fail hI hP nd hn hq) ?_
        refine g_zret (pc := 47) d_PA_takeWeight_47 rfl (by first | rfl | exact nar_bI _) ?_
        unfold Y_weight
        rw [if_pos w1, if_neg w3, if_neg w5]
        exact ⟨rfl, rfl⟩
    · skip
      have w3 := bI_n0 c_24
      refine g_aload_n (pc := 27) d_PA_takeWeight_27 rfl 0 rfl ?_
      refine g_iconst (pc := 28) (v := 3) d_PA_takeWeight_28 (by decide) ?_
      refine g_cV1 (pc := 29) (ci := 1) (As := [.int _]) d_PA_takeWeight_29 rfl mv_PA_fail st_PA_takeWeight_72 rfl rfl (by decide) rfl rfl (Nat.le_of_ble_eq_true rfl) k_pa (cx_PA_fail hI hP nd hn hq) ?_
      refine g_zret (pc := 32) d_PA_takeWeight_32 rfl (by first | rfl | exact nar_bI _) ?_
      unfold Y_weight
      rw [if_pos w1, if_pos w3]
      exact ⟨rfl, rfl⟩
  · skip
    have w2 : ¬ (Y_in 1 5000 q).1 = true := by rw [bI_0.mp c_8]; decide
    refine g_iconst (pc := 11) (v := 0) d_PA_takeWeight_11 (by decide) ?_
    refine g_zret (pc := 12) d_PA_takeWeight_12 rfl (by first | rfl | exact nar_bI _) ?_
    unfold Y_weight
    rw [if_neg w2]
    exact ⟨rfl, rfl⟩
theorem lp_PA_readWeights {E : En} {h : Hp} {ip bt pa rw sc n : Nat} {F0 T P0 V : Nat → Int32} {R : List (Nat × (Nat → Int32))} {b : Nat} (hI : InOk h ip bt) (hP : PaOk h pa ip rw sc) (nd : (ip :: bt :: pa :: rw :: R.map Prod.fst).Nodup) (hn : n ≤ 500) (hB : BuOk h b) (fo : ∀ a, a ∈ ip :: bt :: pa :: rw :: R.map Prod.fst → Fo h b a) : ∀ (d i : Nat) (q : Ps) (B : Bu) (nw : Nat), i ≤ 6 → TkO n q.1 → B.1 7 = nI nw → nw ≤ 6 → 6 - i < d → G E m_PA_readWeights 21 [(2, .int (nI i)), (0, .ref pa), (1, .ref b)] [] (wL (wB h b B) ((ip, rF F0 n q.1) :: (bt, T) :: (pa, rP P0 q.2) :: (rw, V) :: R)) 0 0 (fun v1 h1 => v1 = some (.int (bI (Y_wl T n (6 - i) q B nw).1)) ∧ h1 = wL (wB h b (Y_wl T n (6 - i) q B nw).2.2.1) ((ip, rF F0 n (Y_wl T n (6 - i) q B nw).2.1.1) :: (bt, T) :: (pa, rP P0 (Y_wl T n (6 - i) q B nw).2.1.2) :: (rw, V) :: R)) noX := by
  obtain ⟨k_ip, r_ip_0, k_bt, l_bt⟩ := id hI
  obtain ⟨k_pa, r_pa_0, r_pa_1, r_pa_2, k_rw, l_rw⟩ := id hP
  intro d
  induction d with
  | zero => intros; omega
  | succ d ih =>
    intro i q B nw hi hq hw hnw hd
    refine g_iload_n (pc := 21) d_PA_readWeights_21 rfl 0 rfl ?_
    refine g_bipush (pc := 22) (v := 6) d_PA_readWeights_22 (by decide) ?_
    refine g_icmp_ge (pc := 24) (tgt := 54) d_PA_readWeights_24 (by decide) (fun c_24 => ?_) (fun c_24 => ?_)
    · skip
      have e9 : 6 - i = 0 := by have := (nI_leI (a := 6) (b := i) (by omega) (by omega)).mp c_24; omega
      refine g_aload_n (pc := 54) d_PA_readWeights_54 rfl 1 rfl ?_
      refine g_cV1 (pc := 55) (ci := 1) (As := []) d_PA_readWeights_55 rfl mv_PA_takeSemicolon st_PA_readWeights_99 rfl rfl (by decide) rfl rfl (Nat.le_of_ble_eq_true rfl) k_pa (cx_PA_takeSemicolon hI hP nd hn hq) ?_
      refine g_zret (pc := 58) d_PA_readWeights_58 rfl (by first | rfl | exact nar_bI _) ?_
      first | (rw [e9, Y_wl]; exact ⟨rfl, rfl⟩) | (rw [show 6 - i = (6 - (i + 1)) + 1 by omega, Y_wl, if_neg k2]; exact ⟨rfl, rfl⟩)
    · skip
      have e9 : i < 6 := Nat.lt_of_not_le (fun z => c_24 ((nI_leI (a := 6) (b := i) (by omega) (by omega)).mpr z))
      refine g_aload_n (pc := 27) d_PA_readWeights_27 rfl 1 rfl ?_
      refine g_getR (pc := 28) (ci := 1) (f := 0) (b := ip) rfl r_pa_0 d_PA_readWeights_28 fl_PA_12 (by decide) k_pa ?_
      refine g_lgI0 (pc := 31) (ci := 2) (f := 2) rfl d_PA_readWeights_31 fl_PA_61 (by decide) k_ip nd ?_
      refine g_top rF_2 ?_
      refine g_iconst (pc := 34) (v := 2) d_PA_readWeights_34 (by decide) ?_
      refine g_icmp_ne (pc := 35) (tgt := 54) d_PA_readWeights_35 (by decide) (fun c_35 => ?_) (fun c_35 => ?_)
      · skip
        have k2 : ¬ q.1.1 = 2 := fun z => c_35 (by rw [z]; rfl)
        refine g_aload_n (pc := 54) d_PA_readWeights_54 rfl 1 rfl ?_
        refine g_cV1 (pc := 55) (ci := 1) (As := []) d_PA_readWeights_55 rfl mv_PA_takeSemicolon st_PA_readWeights_99 rfl rfl (by decide) rfl rfl (Nat.le_of_ble_eq_true rfl) k_pa (cx_PA_takeSemicolon hI hP nd hn hq) ?_
        refine g_zret (pc := 58) d_PA_readWeights_58 rfl (by first | rfl | exact nar_bI _) ?_
        first | (rw [e9, Y_wl]; exact ⟨rfl, rfl⟩) | (rw [show 6 - i = (6 - (i + 1)) + 1 by omega, Y_wl, if_neg k2]; exact ⟨rfl, rfl⟩)
      · skip
        have k2 : q.1.1 = 2 := nI_inj (by have := hq.1; omega) (by decide) c_35
        refine g_aload_n (pc := 38) d_PA_readWeights_38 rfl 1 rfl ?_
        refine g_aload_n (pc := 39) d_PA_readWeights_39 rfl 2 rfl ?_
        refine g_cV1 (pc := 40) (ci := 1) (As := [.ref _]) d_PA_readWeights_40 rfl mv_PA_takeWeight st_PA_readWeights_109 rfl rfl (by decide) rfl rfl (Nat.le_of_ble_eq_true rfl) k_pa (cx_PA_takeWeight hI hP nd hn hq hB fo hw hnw) ?_
        refine g_if_ne (pc := 43) (tgt := 48) d_PA_readWeights_43 (by decide) (fun c_43 => ?_) (fun c_43 => ?_)
        · skip
          have w1 := bI_n0 c_43
          obtain ⟨x_1, hx_1⟩ : ∃ y : Int32, y = (nI i) + 1 := ⟨_, rfl⟩
          refine g_iinc (pc := 48) (w := 0) (v := x_1) (lv' := [(2, .int x_1), (0, .ref pa), (1, .ref b)]) d_PA_readWeights_48 rfl (by rw [hx_1]; rfl) (by decide) rfl ?_
          refine g_goto (pc := 51) (tgt := 21) d_PA_readWeights_51 (by decide) ?_
          have e8 : x_1 = nI (i + 1) := by rw [hx_1]; exact nI_1 _
          clear hx_1
          subst e8
          refine g_perm [0, 1, 2] rfl ?_
          rw [show 6 - i = (6 - (i + 1)) + 1 by omega, Y_wl, if_pos k2, if_pos w1]
          have iv := Y_weight_inv (T := T) (n := n) (q := q) hw hnw
          exact ih (i + 1) _ _ _ (by omega) (TkO_weight hq) iv.1 iv.2.1 (by omega)
        · skip
          have w2 : ¬ (Y_weight T n q B nw).1 = true := by rw [bI_0.mp c_43]; decide
          refine g_iconst (pc := 46) (v := 0) d_PA_readWeights_46 (by decide) ?_
          refine g_zret (pc := 47) d_PA_readWeights_47 rfl (by first | rfl | exact nar_bI _) ?_
          rw [show 6 - i = (6 - (i + 1)) + 1 by omega, Y_wl, if_pos k2, if_neg w2]
          exact ⟨rfl, rfl⟩
set_option maxRecDepth 20000 in
theorem cx_PA_readWeights {E : En} {h : Hp} {ip bt pa rw sc n : Nat} {F0 T P0 V : Nat → Int32} {q : Ps} {R : List (Nat × (Nat → Int32))} {b nw : Nat} {B : Bu} (hI : InOk h ip bt) (hP : PaOk h pa ip rw sc) (nd : (ip :: bt :: pa :: rw :: R.map Prod.fst).Nodup) (hn : n ≤ 500) (hq : TkO n q.1) (hB : BuOk h b) (fo : ∀ a, a ∈ ip :: bt :: pa :: rw :: R.map Prod.fst → Fo h b a) (hw : B.1 7 = nI nw) (hnw : nw ≤ 6) : CR E m_PA_readWeights [.ref pa, .ref b] (wL (wB h b B) ((ip, rF F0 n q.1) :: (bt, T) :: (pa, rP P0 q.2) :: (rw, V) :: R)) (some (.int (bI (Y_weights T n q B nw).1))) (wL (wB h b (Y_weights T n q B nw).2.2.1) ((ip, rF F0 n (Y_weights T n q B nw).2.1.1) :: (bt, T) :: (pa, rP P0 (Y_weights T n q B nw).2.1.2) :: (rw, V) :: R)) := by
  refine ct_of rfl (by decide +kernel) (Nat.le_of_ble_eq_true rfl) ?_
  show G E m_PA_readWeights 0 [(0, .ref pa), (1, .ref b)] [] (wL (wB h b B) ((ip, rF F0 n q.1) :: (bt, T) :: (pa, rP P0 q.2) :: (rw, V) :: R)) 0 0 _ noX
  obtain ⟨k_ip, r_ip_0, k_bt, l_bt⟩ := id hI
  obtain ⟨k_pa, r_pa_0, r_pa_1, r_pa_2, k_rw, l_rw⟩ := id hP
  refine g_aload_n (pc := 0) d_PA_readWeights_0 rfl 0 rfl ?_
  refine g_ldcs (pc := 1) d_PA_readWeights_1 2 rfl ?_
  refine g_cV1 (pc := 3) (ci := 1) (As := [.ref _]) d_PA_readWeights_3 rfl mv_PA_takeWord st_PA_readWeights_88 rfl rfl (by decide) rfl rfl (Nat.le_of_ble_eq_true rfl) k_pa (cx_PA_takeWord hI hP nd hn hq (by decide)) ?_
  refine g_if_eq (pc := 6) (tgt := 17) d_PA_readWeights_6 (by decide) (fun c_6 => ?_) (fun c_6 => ?_)
  · skip
    have w2 : ¬ (Y_word T n 2 q).1 = true := by rw [bI_0.mp c_6]; decide
    refine g_iconst (pc := 17) (v := 0) d_PA_readWeights_17 (by decide) ?_
    refine g_zret (pc := 18) d_PA_readWeights_18 rfl (by first | rfl | exact nar_bI _) ?_
    unfold Y_weights
    first | (rw [if_neg w2]; exact ⟨rfl, rfl⟩) | (rw [if_pos w1, if_neg w4]; exact ⟨rfl, rfl⟩)
  · skip
    have w1 := bI_n0 c_6
    refine g_aload_n (pc := 9) d_PA_readWeights_9 rfl 0 rfl ?_
    refine g_aload_n (pc := 10) d_PA_readWeights_10 rfl 1 rfl ?_
    refine g_cV1 (pc := 11) (ci := 1) (As := [.ref _]) d_PA_readWeights_11 rfl mv_PA_takeWeight st_PA_readWeights_109 rfl rfl (by decide) rfl rfl (Nat.le_of_ble_eq_true rfl) k_pa (cx_PA_takeWeight hI hP nd hn (TkO_word hq) hB fo hw hnw) ?_
    refine g_if_ne (pc := 14) (tgt := 19) d_PA_readWeights_14 (by decide) (fun c_14 => ?_) (fun c_14 => ?_)
    · skip
      have w3 := bI_n0 c_14
      refine g_iconst (pc := 19) (v := 0) d_PA_readWeights_19 (by decide) ?_
      refine g_nameI (fun x_1 hx_1 => ?_)
      refine g_istore_n (pc := 20) (lv' := [(2, .int x_1), (0, .ref pa), (1, .ref b)]) d_PA_readWeights_20 rfl (by decide) rfl ?_
      subst hx_1
      have iv := Y_weight_inv (T := T) (n := n) (q := (Y_word T n 2 q).2) hw hnw
      unfold Y_weights
      rw [if_pos w1, if_pos w3]
      exact lp_PA_readWeights hI hP nd hn hB fo 7 0 _ _ _ (Nat.zero_le _) (TkO_weight (TkO_word hq)) iv.1 iv.2.1 (by omega)
    · skip
      have w4 : ¬ (Y_weight T n (Y_word T n 2 q).2 B nw).1 = true := by rw [bI_0.mp c_14]; decide
      refine g_iconst (pc := 17) (v := 0) d_PA_readWeights_17 (by decide) ?_
      refine g_zret (pc := 18) d_PA_readWeights_18 rfl (by first | rfl | exact nar_bI _) ?_
      unfold Y_weights
      first | (rw [if_neg w2]; exact ⟨rfl, rfl⟩) | (rw [if_pos w1, if_neg w4]; exact ⟨rfl, rfl⟩)
set_option maxRecDepth 20000 in
theorem cx_PA_readBureau {E : En} {h : Hp} {ip bt pa rw sc n : Nat} {F0 T P0 V : Nat → Int32} {q : Ps} {R : List (Nat × (Nat → Int32))} {b : Nat} {B : Bu} (hI : InOk h ip bt) (hP : PaOk h pa ip rw sc) (nd : (ip :: bt :: pa :: rw :: R.map Prod.fst).Nodup) (hn : n ≤ 500) (hq : TkO n q.1) (hB : BuOk h b) (fo : ∀ a, a ∈ ip :: bt :: pa :: rw :: R.map Prod.fst → Fo h b a) : CR E m_PA_readBureau [.ref pa, .ref b] (wL (wB h b B) ((ip, rF F0 n q.1) :: (bt, T) :: (pa, rP P0 q.2) :: (rw, V) :: R)) (some (.int (bI (Y_bur T n q V B).1))) (wL (wB h b (Y_bur T n q V B).2.2.2) ((ip, rF F0 n (Y_bur T n q V B).2.1.1) :: (bt, T) :: (pa, rP P0 (Y_bur T n q V B).2.1.2) :: (rw, (Y_bur T n q V B).2.2.1) :: R)) := by
  refine ct_of rfl (by decide +kernel) (Nat.le_of_ble_eq_true rfl) ?_
  show G E m_PA_readBureau 0 [(0, .ref pa), (1, .ref b)] [] (wL (wB h b B) ((ip, rF F0 n q.1) :: (bt, T) :: (pa, rP P0 q.2) :: (rw, V) :: R)) 0 0 _ noX
  obtain ⟨k_ip, r_ip_0, k_bt, l_bt⟩ := id hI
  obtain ⟨k_pa, r_pa_0, r_pa_1, r_pa_2, k_rw, l_rw⟩ := id hP
  refine g_aload_n (pc := 0) d_PA_readBureau_0 rfl 0 rfl ?_
  refine g_ldcs (pc := 1) d_PA_readBureau_1 1 rfl ?_
  refine g_cV1 (pc := 3) (ci := 1) (As := [.ref _]) d_PA_readBureau_3 rfl mv_PA_takeWord st_PA_readBureau_88 rfl rfl (by decide) rfl rfl (Nat.le_of_ble_eq_true rfl) k_pa (cx_PA_takeWord hI hP nd hn hq (by decide)) ?_
  refine g_if_eq (pc := 6) (tgt := 26) d_PA_readBureau_6 (by decide) (fun c_6 => ?_) (fun c_6 => ?_)
  · skip
    have y2 : ¬ (Y_word T n 1 q).1 = true := by rw [bI_0.mp c_6]; decide
    refine g_iconst (pc := 26) (v := 0) d_PA_readBureau_26 (by decide) ?_
    refine g_zret (pc := 27) d_PA_readBureau_27 rfl (by first | rfl | exact nar_bI _) ?_
    unfold Y_bur
    dsimp only
    first | (rw [if_neg y2]; exact ⟨rfl, rfl⟩) | (rw [if_pos y1, if_neg y4]; exact ⟨rfl, rfl⟩) | (rw [if_pos y1, if_pos y3, if_neg y6]; exact ⟨rfl, rfl⟩)
  · skip
    have y1 := bI_n0 c_6
    refine g_aload_n (pc := 9) d_PA_readBureau_9 rfl 0 rfl ?_
    refine g_getsN (pc := 10) d_PA_readBureau_10 0 rfl (tn_2 179 rfl rfl : (Jvm.Cond.fieldLinkNest "HonestScales$Parser" (92 : Nat) "HonestScales" "BUREAU_RANGES" "[I" "HonestScales") ∈ tN) ?_
    show G E m_PA_readBureau 13 _ (.ref (eS E 100) :: _) _ 0 0 _ noX
    refine g_cV1 (pc := 13) (ci := 1) (As := [.ref _]) d_PA_readBureau_13 rfl mv_PA_takeRow st_PA_readBureau_95 rfl rfl (by decide) rfl rfl (Nat.le_of_ble_eq_true rfl) k_pa (cx_PA_takeRow hI hP nd hn (TkO_word hq) (tw := 0) (l := RB) (cnt := 7) rfl (by decide) rfl) ?_
    refine g_if_eq (pc := 16) (tgt := 26) d_PA_readBureau_16 (by decide) (fun c_16 => ?_) (fun c_16 => ?_)
    · skip
      have y4 : ¬ (Y_row T n RB 7 0 (Y_word T n 1 q).2 V).1 = true := by rw [bI_0.mp c_16]; decide
      refine g_iconst (pc := 26) (v := 0) d_PA_readBureau_26 (by decide) ?_
      refine g_zret (pc := 27) d_PA_readBureau_27 rfl (by first | rfl | exact nar_bI _) ?_
      unfold Y_bur
      dsimp only
      first | (rw [if_neg y2]; exact ⟨rfl, rfl⟩) | (rw [if_pos y1, if_neg y4]; exact ⟨rfl, rfl⟩) | (rw [if_pos y1, if_pos y3, if_neg y6]; exact ⟨rfl, rfl⟩)
    · skip
      have y3 := bI_n0 c_16
      refine g_aload_n (pc := 19) d_PA_readBureau_19 rfl 0 rfl ?_
      refine g_cV1 (pc := 20) (ci := 1) (As := []) d_PA_readBureau_20 rfl mv_PA_takeSemicolon st_PA_readBureau_99 rfl rfl (by decide) rfl rfl (Nat.le_of_ble_eq_true rfl) k_pa (cx_PA_takeSemicolon hI hP nd hn (TkO_row (TkO_word hq))) ?_
      refine g_if_ne (pc := 23) (tgt := 28) d_PA_readBureau_23 (by decide) (fun c_23 => ?_) (fun c_23 => ?_)
      · skip
        have y5 := bI_n0 c_23
        refine g_aload_n (pc := 28) d_PA_readBureau_28 rfl 1 rfl ?_
        refine g_aload_n (pc := 29) d_PA_readBureau_29 rfl 0 rfl ?_
        refine g_getR (pc := 30) (ci := 1) (f := 2) (b := rw) rfl r_pa_2 d_PA_readBureau_30 fl_PA_25 (by decide) k_pa ?_
        refine g_h (wB_wL (by exact fo)).symm ?_
        refine g_cV0 (pc := 33) (ci := 4) (As := [.ref _]) d_PA_readBureau_33 rfl mv_BU_begin st_PA_readBureau_103 rfl rfl (by decide) rfl rfl (Nat.le_of_ble_eq_true rfl) hB.1 (cb_beginV hB k_rw l_rw (fo rw (by simp)) (wLf_at 3 rfl nd)) ?_
        refine g_h (wB_wL (by exact fo)) ?_
        refine g_iconst (pc := 36) (v := 1) d_PA_readBureau_36 (by decide) ?_
        refine g_zret (pc := 37) d_PA_readBureau_37 rfl (by first | rfl | exact nar_bI _) ?_
        unfold Y_bur
        dsimp only
        rw [if_pos y1, if_pos y3, if_pos y5]
        exact ⟨rfl, rfl⟩
      · skip
        have y6 : ¬ (Y_semi T n (Y_row T n RB 7 0 (Y_word T n 1 q).2 V).2.1).1 = true := by rw [bI_0.mp c_23]; decide
        refine g_iconst (pc := 26) (v := 0) d_PA_readBureau_26 (by decide) ?_
        refine g_zret (pc := 27) d_PA_readBureau_27 rfl (by first | rfl | exact nar_bI _) ?_
        unfold Y_bur
        dsimp only
        first | (rw [if_neg y2]; exact ⟨rfl, rfl⟩) | (rw [if_pos y1, if_neg y4]; exact ⟨rfl, rfl⟩) | (rw [if_pos y1, if_pos y3, if_neg y6]; exact ⟨rfl, rfl⟩)
theorem lp_PA_readShops {E : En} {h : Hp} {ip bt pa rw sc n : Nat} {F0 T P0 : Nat → Int32} {R : List (Nat × (Nat → Int32))} {b : Nat} (hI : InOk h ip bt) (hP : PaOk h pa ip rw sc) (nd : (ip :: bt :: pa :: rw :: R.map Prod.fst).Nodup) (hn : n ≤ 500) (hB : BuOk h b) (fo : ∀ a, a ∈ ip :: bt :: pa :: rw :: R.map Prod.fst → Fo h b a) : ∀ (d i : Nat) (q : Ps) (V : Nat → Int32) (B : Bu), i ≤ 8 → TkO n q.1 → B.1 8 = nI i → 8 - i < d → G E m_PA_readShops 2 [(2, .int (nI i)), (0, .ref pa), (1, .ref b)] [] (wL (wB h b B) ((ip, rF F0 n q.1) :: (bt, T) :: (pa, rP P0 q.2) :: (rw, V) :: R)) 0 0 (fun v1 h1 => v1 = some (.int (bI (Y_sh T n (8 - i) i q V B).1)) ∧ h1 = wL (wB h b (Y_sh T n (8 - i) i q V B).2.2.2) ((ip, rF F0 n (Y_sh T n (8 - i) i q V B).2.1.1) :: (bt, T) :: (pa, rP P0 (Y_sh T n (8 - i) i q V B).2.1.2) :: (rw, (Y_sh T n (8 - i) i q V B).2.2.1) :: R)) noX := by
  obtain ⟨k_ip, r_ip_0, k_bt, l_bt⟩ := id hI
  obtain ⟨k_pa, r_pa_0, r_pa_1, r_pa_2, k_rw, l_rw⟩ := id hP
  intro d
  induction d with
  | zero => intros; omega
  | succ d ih =>
    intro i q V B hi hq hs hd
    refine g_iload_n (pc := 2) d_PA_readShops_2 rfl 0 rfl ?_
    refine g_bipush (pc := 3) (v := 8) d_PA_readShops_3 (by decide) ?_
    refine g_icmp_ge (pc := 5) (tgt := 66) d_PA_readShops_5 (by decide) (fun c_5 => ?_) (fun c_5 => ?_)
    · skip
      have e9 : 8 - i = 0 := by have := (nI_leI (a := 8) (b := i) (by omega) (by omega)).mp c_5; omega
      refine g_aload_n (pc := 66) d_PA_readShops_66 rfl 1 rfl ?_
      refine g_getR (pc := 67) (ci := 1) (f := 0) (b := ip) rfl r_pa_0 d_PA_readShops_67 fl_PA_12 (by decide) k_pa ?_
      refine g_lgI0 (pc := 70) (ci := 2) (f := 2) rfl d_PA_readShops_70 fl_PA_61 (by decide) k_ip nd ?_
      refine g_top rF_2 ?_
      refine g_if_eq (pc := 73) (tgt := 100) d_PA_readShops_73 (by decide) (fun c_73 => ?_) (fun c_73 => ?_)
      · skip
        have k0 : q.1.1 = 0 := nI_inj (b := 0) (by have := hq.1; omega) (by decide) c_73
        refine g_iconst (pc := 100) (v := 1) d_PA_readShops_100 (by decide) ?_
        refine g_goto (pc := 101) (tgt := 105) d_PA_readShops_101 (by decide) ?_
        refine g_zret (pc := 105) d_PA_readShops_105 rfl (by first | rfl | exact nar_bI _) ?_
        rw [e9, Y_sh]
        first | (rw [if_pos k0]; exact ⟨rfl, rfl⟩) | (rw [if_neg k0, if_pos x1]; exact ⟨rfl, rfl⟩) | (rw [if_neg k0, if_neg x2]; exact ⟨rfl, rfl⟩)
      · skip
        have k0 : ¬ q.1.1 = 0 := fun z => c_73 (by rw [z]; rfl)
        refine g_aload_n (pc := 76) d_PA_readShops_76 rfl 1 rfl ?_
        refine g_aload_n (pc := 77) d_PA_readShops_77 rfl 1 rfl ?_
        refine g_getR (pc := 78) (ci := 1) (f := 0) (b := ip) rfl r_pa_0 d_PA_readShops_78 fl_PA_12 (by decide) k_pa ?_
        refine g_ldcs (pc := 81) d_PA_readShops_81 3 rfl ?_
        refine g_cV1 (pc := 83) (ci := 2) (As := [.ref _]) d_PA_readShops_83 rfl mv_IN_isWord st_PA_readShops_140 rfl rfl (by decide) rfl rfl (Nat.le_of_ble_eq_true rfl) k_ip (cy_IN_isWord hI nd (by decide) hn hq) ?_
        refine g_if_eq (pc := 86) (tgt := 93) d_PA_readShops_86 (by decide) (fun c_86 => ?_) (fun c_86 => ?_)
        · skip
          have x2 : ¬ Y_isw T q.1 3 = true := by rw [bI_0.mp c_86]; decide
          refine g_iconst (pc := 93) (v := 1) d_PA_readShops_93 (by decide) ?_
          refine g_cV1 (pc := 94) (ci := 1) (As := [.int _]) d_PA_readShops_94 rfl mv_PA_fail st_PA_readShops_72 rfl rfl (by decide) rfl rfl (Nat.le_of_ble_eq_true rfl) k_pa (cx_PA_fail hI hP nd hn hq) ?_
          refine g_if_eq (pc := 97) (tgt := 104) d_PA_readShops_97 (by decide) (fun c_97 => ?_) (fun c_97 => ?_)
          · skip
            refine g_iconst (pc := 104) (v := 0) d_PA_readShops_104 (by decide) ?_
            refine g_zret (pc := 105) d_PA_readShops_105 rfl (by first | rfl | exact nar_bI _) ?_
            rw [e9, Y_sh]
            first | (rw [if_pos k0]; exact ⟨rfl, rfl⟩) | (rw [if_neg k0, if_pos x1]; exact ⟨rfl, rfl⟩) | (rw [if_neg k0, if_neg x2]; exact ⟨rfl, rfl⟩)
          · exact absurd rfl c_97
        · skip
          have x1 := bI_n0 c_86
          refine g_iconst (pc := 89) (v := 4) d_PA_readShops_89 (by decide) ?_
          refine g_goto (pc := 90) (tgt := 94) d_PA_readShops_90 (by decide) ?_
          refine g_cV1 (pc := 94) (ci := 1) (As := [.int _]) d_PA_readShops_94 rfl mv_PA_fail st_PA_readShops_72 rfl rfl (by decide) rfl rfl (Nat.le_of_ble_eq_true rfl) k_pa (cx_PA_fail hI hP nd hn hq) ?_
          refine g_if_eq (pc := 97) (tgt := 104) d_PA_readShops_97 (by decide) (fun c_97 => ?_) (fun c_97 => ?_)
          · skip
            refine g_iconst (pc := 104) (v := 0) d_PA_readShops_104 (by decide) ?_
            refine g_zret (pc := 105) d_PA_readShops_105 rfl (by first | rfl | exact nar_bI _) ?_
            rw [e9, Y_sh]
            first | (rw [if_pos k0]; exact ⟨rfl, rfl⟩) | (rw [if_neg k0, if_pos x1]; exact ⟨rfl, rfl⟩) | (rw [if_neg k0, if_neg x2]; exact ⟨rfl, rfl⟩)
          · exact absurd rfl c_97
    · skip
      have e9 : i < 8 := Nat.lt_of_not_le (fun z => c_5 ((nI_leI (a := 8) (b := i) (by omega) (by omega)).mpr z))
      refine g_iload_n (pc := 8) d_PA_readShops_8 rfl 0 rfl ?_
      refine g_if_le (pc := 9) (tgt := 24) d_PA_readShops_9 (by decide) (fun c_9 => ?_) (fun c_9 => ?_)
      · skip
        have z0 : ¬ (0 < i ∧ q.1.1 = 0) := fun z => absurd ((nI_leI (a := i) (b := 0) (by omega) (by omega)).mp c_9) (by omega)
        refine g_aload_n (pc := 24) d_PA_readShops_24 rfl 1 rfl ?_
        refine g_ldcs (pc := 25) d_PA_readShops_25 3 rfl ?_
        refine g_cV1 (pc := 27) (ci := 1) (As := [.ref _]) d_PA_readShops_27 rfl mv_PA_takeWord st_PA_readShops_88 rfl rfl (by decide) rfl rfl (Nat.le_of_ble_eq_true rfl) k_pa (cx_PA_takeWord hI hP nd hn hq (by decide)) ?_
        refine g_if_eq (pc := 30) (tgt := 50) d_PA_readShops_30 (by decide) (fun c_30 => ?_) (fun c_30 => ?_)
        · skip
          have y2 : ¬ (Y_word T n 3 q).1 = true := by rw [bI_0.mp c_30]; decide
          refine g_iconst (pc := 50) (v := 0) d_PA_readShops_50 (by decide) ?_
          refine g_zret (pc := 51) d_PA_readShops_51 rfl (by first | rfl | exact nar_bI _) ?_
          rw [show 8 - i = (8 - (i + 1)) + 1 by omega, Y_sh, if_neg z0]
          unfold Y_shop1
          dsimp only
          first | (rw [if_neg y2]; exact ⟨rfl, rfl⟩) | (rw [if_pos y1, if_neg y4]; exact ⟨rfl, rfl⟩) | (rw [if_pos y1, if_pos y3, if_neg y6]; exact ⟨rfl, rfl⟩)
        · skip
          have y1 := bI_n0 c_30
          refine g_aload_n (pc := 33) d_PA_readShops_33 rfl 1 rfl ?_
          refine g_getsN (pc := 34) d_PA_readShops_34 1 rfl (tn_2 223 rfl rfl : (Jvm.Cond.fieldLinkNest "HonestScales$Parser" (134 : Nat) "HonestScales" "SHOP_RANGES" "[I" "HonestScales") ∈ tN) ?_
          show G E m_PA_readShops 37 _ (.ref (eS E 101) :: _) _ 0 0 _ noX
          refine g_cV1 (pc := 37) (ci := 1) (As := [.ref _]) d_PA_readShops_37 rfl mv_PA_takeRow st_PA_readShops_95 rfl rfl (by decide) rfl rfl (Nat.le_of_ble_eq_true rfl) k_pa (cx_PA_takeRow hI hP nd hn (TkO_word hq) (tw := 1) (l := RS) (cnt := 8) rfl (by decide) rfl) ?_
          refine g_if_eq (pc := 40) (tgt := 50) d_PA_readShops_40 (by decide) (fun c_40 => ?_) (fun c_40 => ?_)
          · skip
            have y4 : ¬ (Y_row T n RS 8 0 (Y_word T n 3 q).2 V).1 = true := by rw [bI_0.mp c_40]; decide
            refine g_iconst (pc := 50) (v := 0) d_PA_readShops_50 (by decide) ?_
            refine g_zret (pc := 51) d_PA_readShops_51 rfl (by first | rfl | exact nar_bI _) ?_
            rw [show 8 - i = (8 - (i + 1)) + 1 by omega, Y_sh, if_neg z0]
            unfold Y_shop1
            dsimp only
            first | (rw [if_neg y2]; exact ⟨rfl, rfl⟩) | (rw [if_pos y1, if_neg y4]; exact ⟨rfl, rfl⟩) | (rw [if_pos y1, if_pos y3, if_neg y6]; exact ⟨rfl, rfl⟩)
          · skip
            have y3 := bI_n0 c_40
            refine g_aload_n (pc := 43) d_PA_readShops_43 rfl 1 rfl ?_
            refine g_cV1 (pc := 44) (ci := 1) (As := []) d_PA_readShops_44 rfl mv_PA_takeSemicolon st_PA_readShops_99 rfl rfl (by decide) rfl rfl (Nat.le_of_ble_eq_true rfl) k_pa (cx_PA_takeSemicolon hI hP nd hn (TkO_row (TkO_word hq))) ?_
            refine g_if_ne (pc := 47) (tgt := 52) d_PA_readShops_47 (by decide) (fun c_47 => ?_) (fun c_47 => ?_)
            · skip
              have y5 := bI_n0 c_47
              refine g_aload_n (pc := 52) d_PA_readShops_52 rfl 2 rfl ?_
              refine g_aload_n (pc := 53) d_PA_readShops_53 rfl 1 rfl ?_
              refine g_getR (pc := 54) (ci := 1) (f := 2) (b := rw) rfl r_pa_2 d_PA_readShops_54 fl_PA_25 (by decide) k_pa ?_
              refine g_h (wB_wL (by exact fo)).symm ?_
              refine g_cV0 (pc := 57) (ci := 4) (As := [.ref _]) d_PA_readShops_57 rfl mv_BU_addShop st_PA_readShops_137 rfl rfl (by decide) rfl rfl (Nat.le_of_ble_eq_true rfl) hB.1 (cb_addShopV hB hs e9 k_rw l_rw (fo rw (by simp)) (wLf_at 3 rfl nd)) ?_
              refine g_h (wB_wL (by exact fo)) ?_
              obtain ⟨x_1, hx_1⟩ : ∃ y : Int32, y = (nI i) + 1 := ⟨_, rfl⟩
              refine g_iinc (pc := 60) (w := 0) (v := x_1) (lv' := [(2, .int x_1), (0, .ref pa), (1, .ref b)]) d_PA_readShops_60 rfl (by rw [hx_1]; rfl) (by decide) rfl ?_
              refine g_goto (pc := 63) (tgt := 2) d_PA_readShops_63 (by decide) ?_
              have e8 : x_1 = nI (i + 1) := by rw [hx_1]; exact nI_1 _
              clear hx_1
              subst e8
              refine g_perm [0, 1, 2] rfl ?_
              have e6 : (Y_shop1 T n i q V B) = (true, (Y_semi T n (Y_row T n RS 8 0 (Y_word T n 3 q).2 V).2.1).2, (Y_row T n RS 8 0 (Y_word T n 3 q).2 V).2.2, P_addS B i (Y_row T n RS 8 0 (Y_word T n 3 q).2 V).2.2) := by unfold Y_shop1; dsimp only; rw [if_pos y1, if_pos y3, if_pos y5]
              rw [show 8 - i = (8 - (i + 1)) + 1 by omega, Y_sh, if_neg z0, if_pos (by rw [e6]), e6]
              exact ih (i + 1) _ _ _ (by omega) (TkO_semi (TkO_row (TkO_word hq))) rfl (by omega)
            · skip
              have y6 : ¬ (Y_semi T n (Y_row T n RS 8 0 (Y_word T n 3 q).2 V).2.1).1 = true := by rw [bI_0.mp c_47]; decide
              refine g_iconst (pc := 50) (v := 0) d_PA_readShops_50 (by decide) ?_
              refine g_zret (pc := 51) d_PA_readShops_51 rfl (by first | rfl | exact nar_bI _) ?_
              rw [show 8 - i = (8 - (i + 1)) + 1 by omega, Y_sh, if_neg z0]
              unfold Y_shop1
              dsimp only
              first | (rw [if_neg y2]; exact ⟨rfl, rfl⟩) | (rw [if_pos y1, if_neg y4]; exact ⟨rfl, rfl⟩) | (rw [if_pos y1, if_pos y3, if_neg y6]; exact ⟨rfl, rfl⟩)
      · skip
        have i0 : 0 < i := Nat.lt_of_not_le (fun z => c_9 ((nI_leI (a := i) (b := 0) (by omega) (by omega)).mpr z))
        refine g_aload_n (pc := 12) d_PA_readShops_12 rfl 1 rfl ?_
        refine g_getR (pc := 13) (ci := 1) (f := 0) (b := ip) rfl r_pa_0 d_PA_readShops_13 fl_PA_12 (by decide) k_pa ?_
        refine g_lgI0 (pc := 16) (ci := 2) (f := 2) rfl d_PA_readShops_16 fl_PA_61 (by decide) k_ip nd ?_
        refine g_top rF_2 ?_
        refine g_if_ne (pc := 19) (tgt := 24) d_PA_readShops_19 (by decide) (fun c_19 => ?_) (fun c_19 => ?_)
        · skip
          have k0 : ¬ q.1.1 = 0 := fun z => c_19 (by rw [z]; rfl)
          have z0 : ¬ (0 < i ∧ q.1.1 = 0) := fun z => k0 z.2
          refine g_aload_n (pc := 24) d_PA_readShops_24 rfl 1 rfl ?_
          refine g_ldcs (pc := 25) d_PA_readShops_25 3 rfl ?_
          refine g_cV1 (pc := 27) (ci := 1) (As := [.ref _]) d_PA_readShops_27 rfl mv_PA_takeWord st_PA_readShops_88 rfl rfl (by decide) rfl rfl (Nat.le_of_ble_eq_true rfl) k_pa (cx_PA_takeWord hI hP nd hn hq (by decide)) ?_
          refine g_if_eq (pc := 30) (tgt := 50) d_PA_readShops_30 (by decide) (fun c_30 => ?_) (fun c_30 => ?_)
          · skip
            have y2 : ¬ (Y_word T n 3 q).1 = true := by rw [bI_0.mp c_30]; decide
            refine g_iconst (pc := 50) (v := 0) d_PA_readShops_50 (by decide) ?_
            refine g_zret (pc := 51) d_PA_readShops_51 rfl (by first | rfl | exact nar_bI _) ?_
            rw [show 8 - i = (8 - (i + 1)) + 1 by omega, Y_sh, if_neg z0]
            unfold Y_shop1
            dsimp only
            first | (rw [if_neg y2]; exact ⟨rfl, rfl⟩) | (rw [if_pos y1, if_neg y4]; exact ⟨rfl, rfl⟩) | (rw [if_pos y1, if_pos y3, if_neg y6]; exact ⟨rfl, rfl⟩)
          · skip
            have y1 := bI_n0 c_30
            refine g_aload_n (pc := 33) d_PA_readShops_33 rfl 1 rfl ?_
            refine g_getsN (pc := 34) d_PA_readShops_34 1 rfl (tn_2 223 rfl rfl : (Jvm.Cond.fieldLinkNest "HonestScales$Parser" (134 : Nat) "HonestScales" "SHOP_RANGES" "[I" "HonestScales") ∈ tN) ?_
            show G E m_PA_readShops 37 _ (.ref (eS E 101) :: _) _ 0 0 _ noX
            refine g_cV1 (pc := 37) (ci := 1) (As := [.ref _]) d_PA_readShops_37 rfl mv_PA_takeRow st_PA_readShops_95 rfl rfl (by decide) rfl rfl (Nat.le_of_ble_eq_true rfl) k_pa (cx_PA_takeRow hI hP nd hn (TkO_word hq) (tw := 1) (l := RS) (cnt := 8) rfl (by decide) rfl) ?_
            refine g_if_eq (pc := 40) (tgt := 50) d_PA_readShops_40 (by decide) (fun c_40 => ?_) (fun c_40 => ?_)
            · skip
              have y4 : ¬ (Y_row T n RS 8 0 (Y_word T n 3 q).2 V).1 = true := by rw [bI_0.mp c_40]; decide
              refine g_iconst (pc := 50) (v := 0) d_PA_readShops_50 (by decide) ?_
              refine g_zret (pc := 51) d_PA_readShops_51 rfl (by first | rfl | exact nar_bI _) ?_
              rw [show 8 - i = (8 - (i + 1)) + 1 by omega, Y_sh, if_neg z0]
              unfold Y_shop1
              dsimp only
              first | (rw [if_neg y2]; exact ⟨rfl, rfl⟩) | (rw [if_pos y1, if_neg y4]; exact ⟨rfl, rfl⟩) | (rw [if_pos y1, if_pos y3, if_neg y6]; exact ⟨rfl, rfl⟩)
            · skip
              have y3 := bI_n0 c_40
              refine g_aload_n (pc := 43) d_PA_readShops_43 rfl 1 rfl ?_
              refine g_cV1 (pc := 44) (ci := 1) (As := []) d_PA_readShops_44 rfl mv_PA_takeSemicolon st_PA_readShops_99 rfl rfl (by decide) rfl rfl (Nat.le_of_ble_eq_true rfl) k_pa (cx_PA_takeSemicolon hI hP nd hn (TkO_row (TkO_word hq))) ?_
              refine g_if_ne (pc := 47) (tgt := 52) d_PA_readShops_47 (by decide) (fun c_47 => ?_) (fun c_47 => ?_)
              · skip
                have y5 := bI_n0 c_47
                refine g_aload_n (pc := 52) d_PA_readShops_52 rfl 2 rfl ?_
                refine g_aload_n (pc := 53) d_PA_readShops_53 rfl 1 rfl ?_
                refine g_getR (pc := 54) (ci := 1) (f := 2) (b := rw) rfl r_pa_2 d_PA_readShops_54 fl_PA_25 (by decide) k_pa ?_
                refine g_h (wB_wL (by exact fo)).symm ?_
                refine g_cV0 (pc := 57) (ci := 4) (As := [.ref _]) d_PA_readShops_57 rfl mv_BU_addShop st_PA_readShops_137 rfl rfl (by decide) rfl rfl (Nat.le_of_ble_eq_true rfl) hB.1 (cb_addShopV hB hs e9 k_rw l_rw (fo rw (by simp)) (wLf_at 3 rfl nd)) ?_
                refine g_h (wB_wL (by exact fo)) ?_
                obtain ⟨x_2, hx_2⟩ : ∃ y : Int32, y = (nI i) + 1 := ⟨_, rfl⟩
                refine g_iinc (pc := 60) (w := 0) (v := x_2) (lv' := [(2, .int x_2), (0, .ref pa), (1, .ref b)]) d_PA_readShops_60 rfl (by rw [hx_2]; rfl) (by decide) rfl ?_
                refine g_goto (pc := 63) (tgt := 2) d_PA_readShops_63 (by decide) ?_
                have e8 : x_2 = nI (i + 1) := by rw [hx_2]; exact nI_1 _
                clear hx_2
                subst e8
                refine g_perm [0, 1, 2] rfl ?_
                have e6 : (Y_shop1 T n i q V B) = (true, (Y_semi T n (Y_row T n RS 8 0 (Y_word T n 3 q).2 V).2.1).2, (Y_row T n RS 8 0 (Y_word T n 3 q).2 V).2.2, P_addS B i (Y_row T n RS 8 0 (Y_word T n 3 q).2 V).2.2) := by unfold Y_shop1; dsimp only; rw [if_pos y1, if_pos y3, if_pos y5]
                rw [show 8 - i = (8 - (i + 1)) + 1 by omega, Y_sh, if_neg z0, if_pos (by rw [e6]), e6]
                exact ih (i + 1) _ _ _ (by omega) (TkO_semi (TkO_row (TkO_word hq))) rfl (by omega)
              · skip
                have y6 : ¬ (Y_semi T n (Y_row T n RS 8 0 (Y_word T n 3 q).2 V).2.1).1 = true := by rw [bI_0.mp c_47]; decide
                refine g_iconst (pc := 50) (v := 0) d_PA_readShops_50 (by decide) ?_
                refine g_zret (pc := 51) d_PA_readShops_51 rfl (by first | rfl | exact nar_bI _) ?_
                rw [show 8 - i = (8 - (i + 1)) + 1 by omega, Y_sh, if_neg z0]
                unfold Y_shop1
                dsimp only
                first | (rw [if_neg y2]; exact ⟨rfl, rfl⟩) | (rw [if_pos y1, if_neg y4]; exact ⟨rfl, rfl⟩) | (rw [if_pos y1, if_pos y3, if_neg y6]; exact ⟨rfl, rfl⟩)
        · skip
          have k0 : q.1.1 = 0 := nI_inj (b := 0) (by have := hq.1; omega) (by decide) c_19
          refine g_iconst (pc := 22) (v := 1) d_PA_readShops_22 (by decide) ?_
          refine g_zret (pc := 23) d_PA_readShops_23 rfl (by first | rfl | exact nar_bI _) ?_
          rw [show 8 - i = (8 - (i + 1)) + 1 by omega, Y_sh, if_pos ⟨i0, k0⟩]
          exact ⟨rfl, rfl⟩
set_option maxRecDepth 20000 in
theorem cx_PA_readShops {E : En} {h : Hp} {ip bt pa rw sc n : Nat} {F0 T P0 V : Nat → Int32} {q : Ps} {R : List (Nat × (Nat → Int32))} {b : Nat} {B : Bu} (hI : InOk h ip bt) (hP : PaOk h pa ip rw sc) (nd : (ip :: bt :: pa :: rw :: R.map Prod.fst).Nodup) (hn : n ≤ 500) (hq : TkO n q.1) (hB : BuOk h b) (fo : ∀ a, a ∈ ip :: bt :: pa :: rw :: R.map Prod.fst → Fo h b a) (hs : B.1 8 = nI 0) : CR E m_PA_readShops [.ref pa, .ref b] (wL (wB h b B) ((ip, rF F0 n q.1) :: (bt, T) :: (pa, rP P0 q.2) :: (rw, V) :: R)) (some (.int (bI (Y_sh T n 8 0 q V B).1))) (wL (wB h b (Y_sh T n 8 0 q V B).2.2.2) ((ip, rF F0 n (Y_sh T n 8 0 q V B).2.1.1) :: (bt, T) :: (pa, rP P0 (Y_sh T n 8 0 q V B).2.1.2) :: (rw, (Y_sh T n 8 0 q V B).2.2.1) :: R)) := by
  refine ct_of rfl (by decide +kernel) (Nat.le_of_ble_eq_true rfl) ?_
  show G E m_PA_readShops 0 [(0, .ref pa), (1, .ref b)] [] (wL (wB h b B) ((ip, rF F0 n q.1) :: (bt, T) :: (pa, rP P0 q.2) :: (rw, V) :: R)) 0 0 _ noX
  obtain ⟨k_ip, r_ip_0, k_bt, l_bt⟩ := id hI
  obtain ⟨k_pa, r_pa_0, r_pa_1, r_pa_2, k_rw, l_rw⟩ := id hP
  refine g_iconst (pc := 0) (v := 0) d_PA_readShops_0 (by decide) ?_
  refine g_nameI (fun x_1 hx_1 => ?_)
  refine g_istore_n (pc := 1) (lv' := [(2, .int x_1), (0, .ref pa), (1, .ref b)]) d_PA_readShops_1 rfl (by decide) rfl ?_
  subst hx_1
  exact lp_PA_readShops hI hP nd hn hB fo 9 0 q V B (Nat.zero_le _) hq hs (by omega)
def Y_setup (T : Nat → Int32) (n : Nat) (q : Ps) (V : Nat → Int32) (B : Bu) : Bp :=
  let a := Y_bur T n (Y_start T n q) V B
  let w := Y_weights T n a.2.1 a.2.2.2 0
  if a.1 = true then (if w.1 = true then Y_sh T n 8 0 w.2.1 a.2.2.1 w.2.2.1 else (false, w.2.1, a.2.2.1, w.2.2.1)) else (false, a.2)
theorem Y_bur_t {T : Nat → Int32} {n : Nat} {q : Ps} {V : Nat → Int32} {B : Bu} (h : (Y_bur T n q V B).1 = true) : (Y_bur T n q V B).2.2.2.1 7 = nI 0 ∧ (Y_bur T n q V B).2.2.2.1 8 = nI 0 := by
  unfold Y_bur at *
  dsimp only at *
  split at h
  · next h1 =>
    split at h
    · next h2 =>
      split at h
      · next h3 =>
        rw [if_pos h1, if_pos h2, if_pos h3]
        exact ⟨rfl, rfl⟩
      · cases h
    · cases h
  · cases h
theorem Y_wl_inv {T : Nat → Int32} {n : Nat} : ∀ {d : Nat} {q : Ps} {B : Bu} {nw : Nat}, B.1 7 = nI nw → nw ≤ 6 → (Y_wl T n d q B nw).2.2.1.1 7 = nI (Y_wl T n d q B nw).2.2.2 ∧ (Y_wl T n d q B nw).2.2.2 ≤ 6 ∧ (∀ k, k ≠ 7 → (Y_wl T n d q B nw).2.2.1.1 k = B.1 k) ∧ (Y_wl T n d q B nw).2.2.1.2.2 = B.2.2
  | 0, q, B, nw, hw, hn => ⟨hw, hn, fun _ _ => rfl, rfl⟩
  | d + 1, q, B, nw, hw, hn => by
    have iv := Y_weight_inv (T := T) (n := n) (q := q) hw hn
    rw [Y_wl]
    split
    · split
      · have i2 := Y_wl_inv (T := T) (n := n) (d := d) (q := (Y_weight T n q B nw).2.1) iv.1 iv.2.1
        exact ⟨i2.1, i2.2.1, fun k hk => (i2.2.2.1 k hk).trans (iv.2.2.1 k hk), i2.2.2.2.trans iv.2.2.2⟩
      · exact iv
    · exact ⟨hw, hn, fun _ _ => rfl, rfl⟩
theorem Y_weights_inv {T : Nat → Int32} {n : Nat} {q : Ps} {B : Bu} {nw : Nat} (hw : B.1 7 = nI nw) (hn : nw ≤ 6) : (Y_weights T n q B nw).2.2.1.1 7 = nI (Y_weights T n q B nw).2.2.2 ∧ (Y_weights T n q B nw).2.2.2 ≤ 6 ∧ (∀ k, k ≠ 7 → (Y_weights T n q B nw).2.2.1.1 k = B.1 k) ∧ (Y_weights T n q B nw).2.2.1.2.2 = B.2.2 := by
  have iv := Y_weight_inv (T := T) (n := n) (q := (Y_word T n 2 q).2) hw hn
  unfold Y_weights
  split
  · split
    · have i2 := Y_wl_inv (T := T) (n := n) (d := 6) (q := (Y_weight T n (Y_word T n 2 q).2 B nw).2.1) iv.1 iv.2.1
      exact ⟨i2.1, i2.2.1, fun k hk => (i2.2.2.1 k hk).trans (iv.2.2.1 k hk), i2.2.2.2.trans iv.2.2.2⟩
    · exact iv
  · exact ⟨hw, hn, fun _ _ => rfl, rfl⟩
theorem TkO_wl {T : Nat → Int32} {n : Nat} : ∀ {d : Nat} {q : Ps} {B : Bu} {nw : Nat}, TkO n q.1 → TkO n (Y_wl T n d q B nw).2.1.1
  | 0, q, B, nw, h => TkO_semi h
  | d + 1, q, B, nw, h => by
    rw [Y_wl]
    split
    · split
      · exact TkO_wl (TkO_weight h)
      · exact TkO_weight h
    · exact TkO_semi h
theorem TkO_weights {T : Nat → Int32} {n nw : Nat} {q : Ps} {B : Bu} (h : TkO n q.1) : TkO n (Y_weights T n q B nw).2.1.1 := by
  unfold Y_weights
  split
  · split
    · exact TkO_wl (TkO_weight (TkO_word h))
    · exact TkO_weight (TkO_word h)
  · exact TkO_word h
set_option maxRecDepth 20000 in
theorem cx_PA_readSetup {E : En} {h : Hp} {ip bt pa rw sc n : Nat} {F0 T P0 V : Nat → Int32} {q : Ps} {R : List (Nat × (Nat → Int32))} {b : Nat} {B : Bu} (hI : InOk h ip bt) (hP : PaOk h pa ip rw sc) (nd : (ip :: bt :: pa :: rw :: R.map Prod.fst).Nodup) (hn : n ≤ 500) (hB : BuOk h b) (fo : ∀ a, a ∈ ip :: bt :: pa :: rw :: R.map Prod.fst → Fo h b a) : CR E m_PA_readSetup [.ref pa, .ref b] (wL (wB h b B) ((ip, rF F0 n q.1) :: (bt, T) :: (pa, rP P0 q.2) :: (rw, V) :: R)) (some (.int (bI (Y_setup T n q V B).1))) (wL (wB h b (Y_setup T n q V B).2.2.2) ((ip, rF F0 n (Y_setup T n q V B).2.1.1) :: (bt, T) :: (pa, rP P0 (Y_setup T n q V B).2.1.2) :: (rw, (Y_setup T n q V B).2.2.1) :: R)) := by
  refine ct_of rfl (by decide +kernel) (Nat.le_of_ble_eq_true rfl) ?_
  show G E m_PA_readSetup 0 [(0, .ref pa), (1, .ref b)] [] (wL (wB h b B) ((ip, rF F0 n q.1) :: (bt, T) :: (pa, rP P0 q.2) :: (rw, V) :: R)) 0 0 _ noX
  obtain ⟨k_ip, r_ip_0, k_bt, l_bt⟩ := id hI
  obtain ⟨k_pa, r_pa_0, r_pa_1, r_pa_2, k_rw, l_rw⟩ := id hP
  refine g_aload_n (pc := 0) d_PA_readSetup_0 rfl 0 rfl ?_
  refine g_cV0 (pc := 1) (ci := 1) (As := []) d_PA_readSetup_1 rfl mv_PA_start st_PA_readSetup_46 rfl rfl (by decide) rfl rfl (Nat.le_of_ble_eq_true rfl) k_pa (cx_PA_start hI hP nd hn) ?_
  refine g_aload_n (pc := 4) d_PA_readSetup_4 rfl 0 rfl ?_
  refine g_aload_n (pc := 5) d_PA_readSetup_5 rfl 1 rfl ?_
  refine g_cV1 (pc := 6) (ci := 1) (As := [.ref _]) d_PA_readSetup_6 rfl mv_PA_readBureau st_PA_readSetup_49 rfl rfl (by decide) rfl rfl (Nat.le_of_ble_eq_true rfl) k_pa (cx_PA_readBureau hI hP nd hn TkO_start hB fo) ?_
  refine g_if_eq (pc := 9) (tgt := 32) d_PA_readSetup_9 (by decide) (fun c_9 => ?_) (fun c_9 => ?_)
  · skip
    have y2 : ¬ (Y_bur T n (Y_start T n q) V B).1 = true := by rw [bI_0.mp c_9]; decide
    refine g_iconst (pc := 32) (v := 0) d_PA_readSetup_32 (by decide) ?_
    refine g_zret (pc := 33) d_PA_readSetup_33 rfl (by first | rfl | exact nar_bI _) ?_
    unfold Y_setup
    dsimp only
    first | (rw [if_neg y2]; exact ⟨rfl, rfl⟩) | (rw [if_pos y1, if_neg y4]; exact ⟨rfl, rfl⟩) | (rw [if_pos y1, if_pos y3, y5]; exact ⟨rfl, rfl⟩)
  · skip
    have y1 := bI_n0 c_9
    refine g_aload_n (pc := 12) d_PA_readSetup_12 rfl 0 rfl ?_
    refine g_aload_n (pc := 13) d_PA_readSetup_13 rfl 1 rfl ?_
    refine g_cV1 (pc := 14) (ci := 1) (As := [.ref _]) d_PA_readSetup_14 rfl mv_PA_readWeights st_PA_readSetup_52 rfl rfl (by decide) rfl rfl (Nat.le_of_ble_eq_true rfl) k_pa (cx_PA_readWeights hI hP nd hn (TkO_bur TkO_start) hB fo (Y_bur_t y1).1 (Nat.zero_le _)) ?_
    refine g_if_eq (pc := 17) (tgt := 32) d_PA_readSetup_17 (by decide) (fun c_17 => ?_) (fun c_17 => ?_)
    · skip
      have y4 : ¬ (Y_weights T n (Y_bur T n (Y_start T n q) V B).2.1 (Y_bur T n (Y_start T n q) V B).2.2.2 0).1 = true := by rw [bI_0.mp c_17]; decide
      refine g_iconst (pc := 32) (v := 0) d_PA_readSetup_32 (by decide) ?_
      refine g_zret (pc := 33) d_PA_readSetup_33 rfl (by first | rfl | exact nar_bI _) ?_
      unfold Y_setup
      dsimp only
      first | (rw [if_neg y2]; exact ⟨rfl, rfl⟩) | (rw [if_pos y1, if_neg y4]; exact ⟨rfl, rfl⟩) | (rw [if_pos y1, if_pos y3, y5]; exact ⟨rfl, rfl⟩)
    · skip
      have y3 := bI_n0 c_17
      refine g_aload_n (pc := 20) d_PA_readSetup_20 rfl 0 rfl ?_
      refine g_aload_n (pc := 21) d_PA_readSetup_21 rfl 1 rfl ?_
      refine g_cV1 (pc := 22) (ci := 1) (As := [.ref _]) d_PA_readSetup_22 rfl mv_PA_readShops st_PA_readSetup_55 rfl rfl (by decide) rfl rfl (Nat.le_of_ble_eq_true rfl) k_pa (cx_PA_readShops hI hP nd hn (TkO_weights (TkO_bur TkO_start)) hB fo (((Y_weights_inv (Y_bur_t y1).1 (Nat.zero_le _)).2.2.1 8 (by decide)).trans (Y_bur_t y1).2)) ?_
      refine g_if_eq (pc := 25) (tgt := 32) d_PA_readSetup_25 (by decide) (fun c_25 => ?_) (fun c_25 => ?_)
      · skip
        have y5 := bI_0.mp c_25
        refine g_iconst (pc := 32) (v := 0) d_PA_readSetup_32 (by decide) ?_
        refine g_zret (pc := 33) d_PA_readSetup_33 rfl (by first | rfl | exact nar_bI _) ?_
        unfold Y_setup
        dsimp only
        first | (rw [if_neg y2]; exact ⟨rfl, rfl⟩) | (rw [if_pos y1, if_neg y4]; exact ⟨rfl, rfl⟩) | (rw [if_pos y1, if_pos y3, y5]; exact ⟨rfl, rfl⟩)
      · skip
        have y5 := bI_n0 c_25
        refine g_iconst (pc := 28) (v := 1) d_PA_readSetup_28 (by decide) ?_
        refine g_goto (pc := 29) (tgt := 33) d_PA_readSetup_29 (by decide) ?_
        refine g_zret (pc := 33) d_PA_readSetup_33 rfl (by first | rfl | exact nar_bI _) ?_
        unfold Y_setup
        dsimp only
        first | (rw [if_neg y2]; exact ⟨rfl, rfl⟩) | (rw [if_pos y1, if_neg y4]; exact ⟨rfl, rfl⟩) | (rw [if_pos y1, if_pos y3, y5]; exact ⟨rfl, rfl⟩)
