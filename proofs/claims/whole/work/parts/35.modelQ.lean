/-! THE MODEL'S PARSER: setups -/
def qS (T : Nat → Int32) (n : Nat) (q : Ps) : Ps := (Y_nx T n q.1, q.1.2.2.2, q.2.2)
theorem Y_num_t {T : Nat → Int32} {n : Nat} {lo hi : Int32} {q : Ps} (h : (Y_in lo hi q).1 = true) : Y_num T n lo hi q = (true, qS T n q) := by unfold Y_num; rw [if_pos h]; rfl
theorem Y_num_f {T : Nat → Int32} {n : Nat} {lo hi : Int32} {q : Ps} (h : (Y_in lo hi q).1 = false) : Y_num T n lo hi q = (false, (Y_in lo hi q).2) := by unfold Y_num; rw [h]; rfl
theorem Yin_t {lo hi : Int32} {q : Ps} (h : (Y_in lo hi q).1 = true) : (Y_in lo hi q).2 = q ∧ q.1.1 = 2 ∧ lo ≤ q.1.2.2.2 ∧ q.1.2.2.2 ≤ hi := by
  unfold Y_in at h ⊢
  split at h
  · next z =>
    rw [if_pos z]
    split at h
    · next y => rw [if_pos y]; exact ⟨rfl, z, y.1, y.2⟩
    · cases h
  · cases h
theorem Y_in_f {lo hi : Int32} {q : Ps} (h : (Y_in lo hi q).1 = false) : (Y_in lo hi q).2.1 = q.1 := by
  unfold Y_in at h ⊢
  split
  · split
    · rfl
    · rfl
  · rfl
theorem Y_row_t {T : Nat → Int32} {n d i : Nat} {l : List Int32} {q : Ps} {V : Nat → Int32} (h : (Y_in (l.getD (2 * i) 0) (l.getD (2 * i + 1) 0) q).1 = true) : Y_row T n l (d + 1) i q V = Y_row T n l d (i + 1) (qS T n q) (u1 V i q.1.2.2.2) := by
  rw [Y_row, Y_num_t h, if_pos rfl]
  rfl
theorem Y_row_f {T : Nat → Int32} {n d i : Nat} {l : List Int32} {q : Ps} {V : Nat → Int32} (h : (Y_in (l.getD (2 * i) 0) (l.getD (2 * i + 1) 0) q).1 = false) : Y_row T n l (d + 1) i q V = (false, (Y_in (l.getD (2 * i) 0) (l.getD (2 * i + 1) 0) q).2, V) := by
  rw [Y_row, Y_num_f h, if_neg (by simp)]
theorem BH_qS {T : Nat → Int32} {n : Nat} {q : Ps} (h : TkO n q.1) : BH T n q.1.2.2.1 (qS T n q) := BH_nx h _
theorem BH_next {T : Nat → Int32} {n : Nat} {q : Ps} (h : TkO n q.1) : BH T n q.1.2.2.1 (Y_next T n q) := BH_nx h _
theorem Y_bur_f1 {T : Nat → Int32} {n : Nat} {q : Ps} {V : Nat → Int32} {B : Bu} (h : ¬ Y_isw T q.1 1 = true) : Y_bur T n q V B = (false, Y_fail 1 q, V, B) := by
  unfold Y_bur
  have e : Y_word T n 1 q = (false, Y_fail 1 q) := by unfold Y_word; rw [if_neg h]
  simp [e]
theorem Y_bur_f2 {T : Nat → Int32} {n : Nat} {q q' : Ps} {V V' : Nat → Int32} {B : Bu} (h : Y_isw T q.1 1 = true) (hr : Y_row T n RB 7 0 (Y_next T n q) V = (false, q', V')) : Y_bur T n q V B = (false, q', V', B) := by
  unfold Y_bur
  have e : Y_word T n 1 q = (true, Y_next T n q) := by unfold Y_word; rw [if_pos h]
  simp [e, hr]
theorem Y_bur_3 {T : Nat → Int32} {n : Nat} {q q' : Ps} {V V' : Nat → Int32} {B : Bu} (h : Y_isw T q.1 1 = true) (hr : Y_row T n RB 7 0 (Y_next T n q) V = (true, q', V')) : Y_bur T n q V B = ((Y_semi T n q').1, (Y_semi T n q').2, V', if (Y_semi T n q').1 = true then (M_beginB B.1 V', B.2) else B) := by
  unfold Y_bur
  have e : Y_word T n 1 q = (true, Y_next T n q) := by unfold Y_word; rw [if_pos h]
  cases es : (Y_semi T n q').1 <;> simp [e, hr, es]
theorem Y_shop_f1 {T : Nat → Int32} {n i : Nat} {q : Ps} {V : Nat → Int32} {B : Bu} (h : ¬ Y_isw T q.1 3 = true) : Y_shop1 T n i q V B = (false, Y_fail 1 q, V, B) := by
  unfold Y_shop1
  have e : Y_word T n 3 q = (false, Y_fail 1 q) := by unfold Y_word; rw [if_neg h]
  simp [e]
theorem Y_shop_f2 {T : Nat → Int32} {n i : Nat} {q q' : Ps} {V V' : Nat → Int32} {B : Bu} (h : Y_isw T q.1 3 = true) (hr : Y_row T n RS 8 0 (Y_next T n q) V = (false, q', V')) : Y_shop1 T n i q V B = (false, q', V', B) := by
  unfold Y_shop1
  have e : Y_word T n 3 q = (true, Y_next T n q) := by unfold Y_word; rw [if_pos h]
  simp [e, hr]
theorem Y_shop_3 {T : Nat → Int32} {n i : Nat} {q q' : Ps} {V V' : Nat → Int32} {B : Bu} (h : Y_isw T q.1 3 = true) (hr : Y_row T n RS 8 0 (Y_next T n q) V = (true, q', V')) : Y_shop1 T n i q V B = ((Y_semi T n q').1, (Y_semi T n q').2, V', if (Y_semi T n q').1 = true then P_addS B i V' else B) := by
  unfold Y_shop1
  have e : Y_word T n 3 q = (true, Y_next T n q) := by unfold Y_word; rw [if_pos h]
  cases es : (Y_semi T n q').1 <;> simp [e, hr, es]
def SBn (N G : Nat → Int32) (i : Nat) : Nat → Int32 := fun j => if j < i then N j else G j
theorem SBn_S (N G : Nat → Int32) (i : Nat) : u1 (SBn N G i) i (N i) = SBn N G (i + 1) := by
  funext j
  rw [u1_at]
  unfold SBn
  by_cases h : j = i
  · rw [if_pos h, if_pos (by omega), h]
  · rw [if_neg h]
    by_cases h2 : j < i
    · rw [if_pos h2, if_pos (by omega)]
    · rw [if_neg h2, if_neg (by omega)]
theorem SBn_0 (N G : Nat → Int32) : SBn N G 0 = G := funext fun j => if_neg (by omega)
theorem SBn_enc {N G V c : Nat → Int32} {x : (Nat → Int32) × (Nat → Nat → Int32)} (hN : ∀ j, j < 7 → N j = V j) (hZ : ∀ j, j < 140 → G j = 0) : SBn N G 7 = enc 0 0 (M_beginB c V, x) G := by
  funext j
  unfold SBn enc
  by_cases h : j < 7
  · rw [if_pos h, if_pos (by omega)]
    show N j = if j < 7 then V j else if j < 12 then 0 else c j
    rw [if_pos h, hN j h]
  · rw [if_neg h]
    by_cases h2 : j < 12
    · rw [if_pos h2]
      show G j = if j < 7 then V j else if j < 12 then 0 else c j
      rw [if_neg h, if_pos h2, hZ j (by omega)]
    · rw [if_neg h2, if_neg (by omega), if_neg (by omega)]
theorem u7 {f g : Nat → Int32} {a0 a1 a2 a3 a4 a5 a6 : Int32} : ∀ j, j < 7 → u1 (u1 (u1 (u1 (u1 (u1 (u1 f 0 a0) 1 a1) 2 a2) 3 a3) 4 a4) 5 a5) 6 a6 j = u1 (u1 (u1 (u1 (u1 (u1 (u1 g 0 a0) 1 a1) 2 a2) 3 a3) 4 a4) 5 a5) 6 a6 j := fun j h => by
  obtain rfl | rfl | rfl | rfl | rfl | rfl | rfl : j = 0 ∨ j = 1 ∨ j = 2 ∨ j = 3 ∨ j = 4 ∨ j = 5 ∨ j = 6 := by omega
  all_goals rfl
theorem u8 {f g : Nat → Int32} {a0 a1 a2 a3 a4 a5 a6 a7 : Int32} : ∀ j, j < 8 → u1 (u1 (u1 (u1 (u1 (u1 (u1 (u1 f 0 a0) 1 a1) 2 a2) 3 a3) 4 a4) 5 a5) 6 a6) 7 a7 j = u1 (u1 (u1 (u1 (u1 (u1 (u1 (u1 g 0 a0) 1 a1) 2 a2) 3 a3) 4 a4) 5 a5) 6 a6) 7 a7 j := fun j h => by
  obtain rfl | rfl | rfl | rfl | rfl | rfl | rfl | rfl : j = 0 ∨ j = 1 ∨ j = 2 ∨ j = 3 ∨ j = 4 ∨ j = 5 ∨ j = 6 ∨ j = 7 := by omega
  all_goals rfl
theorem enc_addW {nw sc : Nat} {B : Bu} {g : Nat → Int32} {v : Int32} (hn : nw < 6) : u1 (u1 (enc nw sc B g) (14 + nw) v) 7 (nI (nw + 1)) = enc (nw + 1) sc (P_addW B nw v) g := by
  funext j
  rw [u1_at, u1_at]
  unfold enc P_addW
  by_cases h7 : j = 7
  · rw [if_pos h7, if_pos (by omega), h7]; rfl
  · rw [if_neg h7]
    by_cases h : j < 12
    · rw [if_neg (by omega), if_pos h, if_pos h]
      show B.1 j = u1 B.1 7 (nI (nw + 1)) j
      rw [u1_ne h7]
    · rw [if_neg h, if_neg h]
      by_cases hw : j = 14 + nw
      · rw [if_pos hw, if_pos (by omega)]
        show v = u1 B.2.1 nw v (j - 14)
        rw [show j - 14 = nw by omega, u1_same]
      · rw [if_neg hw]
        by_cases h2 : 14 ≤ j ∧ j < 14 + nw
        · rw [if_pos h2, if_pos (by omega)]
          show B.2.1 (j - 14) = u1 B.2.1 nw v (j - 14)
          rw [u1_ne (by omega)]
        · rw [if_neg h2, if_neg (show ¬ (14 ≤ j ∧ j < 14 + (nw + 1)) by omega)]
/-- behind the eight puts and the two of addShop -/
def addG (nw sc : Nat) (B : Bu) (g r : Nat → Int32) (i : Nat) : Nat → Int32 := fun j => if 20 + 15 * sc ≤ j ∧ j < 20 + 15 * sc + i then r (j - 20 - 15 * sc) else enc nw sc B g j
theorem addG_0 (nw sc : Nat) (B : Bu) (g r : Nat → Int32) : addG nw sc B g r 0 = enc nw sc B g := funext fun j => if_neg (by omega)
theorem addG_S (nw sc : Nat) (B : Bu) (g r : Nat → Int32) (i : Nat) : u1 (addG nw sc B g r i) (20 + 15 * sc + i) (r i) = addG nw sc B g r (i + 1) := by
  funext j
  rw [u1_at]
  unfold addG
  by_cases h : j = 20 + 15 * sc + i
  · rw [if_pos h, if_pos (by omega), show j - 20 - 15 * sc = i by omega]
  · rw [if_neg h]
    by_cases h2 : 20 + 15 * sc ≤ j ∧ j < 20 + 15 * sc + i
    · rw [if_pos h2, if_pos (by omega)]
    · rw [if_neg h2, if_neg (by omega)]
theorem addG_enc {nw sc : Nat} {B : Bu} {g r V : Nat → Int32} (n6 : nw ≤ 6) (s8 : sc < 8) (hz : ∀ j, 20 + 15 * sc ≤ j → j < 140 → g j = 0) (h0 : ∀ j, j < 8 → (if j = 1 then V j - 500 else if j = 2 then V j - 50 else if j = 3 then V j - 5 else V j) = r j) :
    u1 (u1 (u1 (u1 (addG nw sc B g r 8) (20 + 15 * sc + 10) (-1)) (20 + 15 * sc + 12) 1) 12 (g 12 + r 0)) 8 (nI (sc + 1)) = enc nw (sc + 1) (P_addS B sc V) (u1 g 12 (g 12 + V 0)) := by
  have e0 : r 0 = V 0 := (h0 0 (by omega)).symm
  funext j
  rw [u1_at, u1_at, u1_at, u1_at]
  unfold enc P_addS
  by_cases h8 : j = 8
  · rw [if_pos h8, if_pos (by omega), h8]; rfl
  · rw [if_neg h8]
    by_cases h12 : j = 12
    · rw [if_pos h12, if_neg (by omega), if_neg (by omega), if_neg (by omega), h12, e0]; rfl
    · rw [if_neg h12]
      by_cases hs : 20 + 15 * sc ≤ j ∧ j < 20 + 15 * sc + 15
      · obtain ⟨k, rfl⟩ : ∃ k, j = 20 + 15 * sc + k := ⟨j - (20 + 15 * sc), by omega⟩
        have hk : k < 15 := by omega
        have e1 : (20 + 15 * sc + k - 20) / 15 = sc := by omega
        have e2 : (20 + 15 * sc + k - 20) % 15 = k := by omega
        rw [if_neg (show ¬ 20 + 15 * sc + k < 12 by omega), if_neg (show ¬ (14 ≤ 20 + 15 * sc + k ∧ 20 + 15 * sc + k < 14 + nw) by omega), if_pos (show 20 ≤ 20 + 15 * sc + k ∧ 20 + 15 * sc + k < 20 + 15 * (sc + 1) by omega), e1, e2]
        show _ = u1 B.2.2 sc (M_begin (B.2.2 sc) V) sc k
        rw [u1_same]
        have hg : ∀ k, 8 ≤ k → k < 15 → addG nw sc B g r 8 (20 + 15 * sc + k) = 0 := fun k h1 h2 => by
          have e : addG nw sc B g r 8 (20 + 15 * sc + k) = enc nw sc B g (20 + 15 * sc + k) := if_neg (by omega)
          rw [e]
          unfold enc
          rw [if_neg (by omega), if_neg (by omega), if_neg (by omega)]
          exact hz _ (by omega) (by omega)
        have hr : ∀ k, k < 8 → addG nw sc B g r 8 (20 + 15 * sc + k) = r k := fun k h1 => by
          have e : addG nw sc B g r 8 (20 + 15 * sc + k) = r (20 + 15 * sc + k - 20 - 15 * sc) := if_pos (by omega)
          rw [e, show 20 + 15 * sc + k - 20 - 15 * sc = k by omega]
        obtain rfl | rfl | rfl | rfl | rfl | rfl | rfl | rfl | rfl | rfl | rfl | rfl | rfl | rfl | rfl : k = 0 ∨ k = 1 ∨ k = 2 ∨ k = 3 ∨ k = 4 ∨ k = 5 ∨ k = 6 ∨ k = 7 ∨ k = 8 ∨ k = 9 ∨ k = 10 ∨ k = 11 ∨ k = 12 ∨ k = 13 ∨ k = 14 := by omega
        all_goals first
          | (rw [if_neg (by omega), if_neg (by omega), hr _ (by omega), ← h0 _ (by omega)]; rfl)
          | (rw [if_neg (by omega), if_neg (by omega), hg _ (by omega) (by omega)]; rfl)
          | (rw [if_neg (by omega), if_pos rfl]; rfl)
          | (rw [if_pos rfl]; rfl)
      · rw [if_neg (by omega), if_neg (by omega)]
        have e : addG nw sc B g r 8 j = enc nw sc B g j := if_neg (by omega)
        rw [e]
        unfold enc
        by_cases h : j < 12
        · rw [if_pos h, if_pos h]
          show B.1 j = u1 B.1 8 (nI (sc + 1)) j
          rw [u1_ne h8]
        · rw [if_neg h, if_neg h]
          by_cases h2 : 14 ≤ j ∧ j < 14 + nw
          · rw [if_pos h2, if_pos h2]
          · rw [if_neg h2, if_neg h2]
            by_cases h3 : 20 ≤ j ∧ j < 20 + 15 * sc
            · rw [if_pos h3, if_pos (by omega)]
              show B.2.2 ((j - 20) / 15) ((j - 20) % 15) = u1 B.2.2 sc (M_begin (B.2.2 sc) V) ((j - 20) / 15) ((j - 20) % 15)
              rw [u1_ne (show (j - 20) / 15 ≠ sc by omega)]
            · rw [if_neg h3, if_neg (by omega), u1_ne h12]
section
variable {E : En} {M : Mt} {pc tg : Nat} {lv : List (Nat × Value)} {h : Hp} {k9 n9 : Nat} {P9 : Option Value → Hp → Prop} {X : String → Hp → Prop} {m st mi nu co wd n : Nat} {c0 G0 T Ti N K : Nat → Int32} {R : List (Nat × (Nat → Int32))} {cm e k at9 p idx : Nat} {q : Ps} {w0 lo hi : Int32} {off : Int}
theorem g_fn (hh : mHh M = []) (hd : decode (mC M) pc = .ok (.invokevirtual idx, 3)) (hs : ST M idx m_MO_failsAtNumber) (hM : MpOk h m st mi nu co wd) (nd : (m :: st :: mi :: nu :: co :: wd :: R.map Prod.fst).Nodup) (hn : n ≤ 500) (hc : c0 5 = nI n) (hT : ∀ j, j < n → Ti j = T j) (hb : BH T n e q) (hp : p < 8) (hl : 0 ≤ lo.toInt) (hh6 : hi.toInt ≤ 65536)
    (kf : ∀ w' : Int32, (Y_in lo hi q).1 = false → VQ (Y_in lo hi q).2 w' → TW T n (Y_in lo hi q).2.1 → G E M (pc + 3) lv [.int 1] (wL h ((m, rQ c0 cm (Y_in lo hi q).2 w') :: (st, G0) :: (mi, Ti) :: (nu, N) :: (co, K) :: (wd, wdR) :: R)) k9 n9 P9 X)
    (kt : ∀ (q' : Ps) (e' k' a' : Nat) (w' v' : Int32), (Y_in lo hi q).1 = true → q' = qS T n q → v' = q.1.2.2.2 → BH T n e' q' → G E M (pc + 3) lv [.int 0] (wL h ((m, rM c0 cm e' k' a' w' q'.2.2.1 q'.2.2.2) :: (st, G0) :: (mi, Ti) :: (nu, u1 N p v') :: (co, K) :: (wd, wdR) :: R)) k9 n9 P9 X) :
    G E M pc lv [.int hi, .int lo, .int (nI p), .ref m] (wL h ((m, rM c0 cm e k at9 w0 q.2.2.1 q.2.2.2) :: (st, G0) :: (mi, Ti) :: (nu, N) :: (co, K) :: (wd, wdR) :: R)) k9 n9 P9 X := by
  refine g_cV1 (ci := 7) (As := [.int (nI p), .int lo, .int hi]) hd hh mv_MO_failsAtNumber hs rfl rfl (by decide) rfl rfl (Nat.le_of_ble_eq_true rfl) hM.1 (cm_MO_failsAtNumber hM nd hn hc hT hb hp hl hh6) ?_
  cases hy : (Y_in lo hi q).1 with
  | false =>
    refine kf _ hy (fun z => ?_) (by rw [Y_in_f hy]; exact hb.tw)
    rw [Y_in_f hy] at z ⊢
    exact hb.vq z
  | true =>
    have ez := (Yin_t hy).1
    have k1 := kt (qS T n q) q.1.2.2.1 q.1.1 q.1.2.1 (Z_val T n e w0) q.1.2.2.2 hy rfl rfl (BH_qS hb.tw.1)
    rw [ez]
    exact k1
end
def P_money (s : Nat → Nat → Int32) : Nat → Int32
  | 0 => 0
  | n + 1 => P_money s n + s n 15
theorem d_MO_failsAtBureau_0 : decode (mC m_MO_failsAtBureau) 0 = .ok (.aload_n 0, 1) := by decide +kernel
theorem d_MO_failsAtBureau_1 : decode (mC m_MO_failsAtBureau) 1 = .ok (.invokevirtual 211, 3) := by decide +kernel
theorem d_MO_failsAtBureau_4 : decode (mC m_MO_failsAtBureau) 4 = .ok (.ifCond .eq 9, 3) := by decide +kernel
theorem d_MO_failsAtBureau_7 : decode (mC m_MO_failsAtBureau) 7 = .ok (.aload_n 0, 1) := by decide +kernel
theorem d_MO_failsAtBureau_8 : decode (mC m_MO_failsAtBureau) 8 = .ok (.iconst 1, 1) := by decide +kernel
theorem d_MO_failsAtBureau_9 : decode (mC m_MO_failsAtBureau) 9 = .ok (.invokevirtual 202, 3) := by decide +kernel
theorem d_MO_failsAtBureau_12 : decode (mC m_MO_failsAtBureau) 12 = .ok (.ireturn, 1) := by decide +kernel
theorem d_MO_failsAtBureau_13 : decode (mC m_MO_failsAtBureau) 13 = .ok (.aload_n 0, 1) := by decide +kernel
theorem d_MO_failsAtBureau_14 : decode (mC m_MO_failsAtBureau) 14 = .ok (.iconst 0, 1) := by decide +kernel
theorem d_MO_failsAtBureau_15 : decode (mC m_MO_failsAtBureau) 15 = .ok (.iconst 0, 1) := by decide +kernel
theorem d_MO_failsAtBureau_16 : decode (mC m_MO_failsAtBureau) 16 = .ok (.bipush 50, 2) := by decide +kernel
theorem d_MO_failsAtBureau_18 : decode (mC m_MO_failsAtBureau) 18 = .ok (.invokevirtual 214, 3) := by decide +kernel
theorem d_MO_failsAtBureau_21 : decode (mC m_MO_failsAtBureau) 21 = .ok (.ifCond .ne 36, 3) := by decide +kernel
theorem d_MO_failsAtBureau_24 : decode (mC m_MO_failsAtBureau) 24 = .ok (.aload_n 0, 1) := by decide +kernel
theorem d_MO_failsAtBureau_25 : decode (mC m_MO_failsAtBureau) 25 = .ok (.iconst 1, 1) := by decide +kernel
theorem d_MO_failsAtBureau_26 : decode (mC m_MO_failsAtBureau) 26 = .ok (.iconst 0, 1) := by decide +kernel
theorem d_MO_failsAtBureau_27 : decode (mC m_MO_failsAtBureau) 27 = .ok (.bipush 50, 2) := by decide +kernel
theorem d_MO_failsAtBureau_29 : decode (mC m_MO_failsAtBureau) 29 = .ok (.invokevirtual 214, 3) := by decide +kernel
theorem d_MO_failsAtBureau_32 : decode (mC m_MO_failsAtBureau) 32 = .ok (.ifCond .ne 25, 3) := by decide +kernel
theorem d_MO_failsAtBureau_35 : decode (mC m_MO_failsAtBureau) 35 = .ok (.aload_n 0, 1) := by decide +kernel
theorem d_MO_failsAtBureau_36 : decode (mC m_MO_failsAtBureau) 36 = .ok (.iconst 2, 1) := by decide +kernel
theorem d_MO_failsAtBureau_37 : decode (mC m_MO_failsAtBureau) 37 = .ok (.iconst 0, 1) := by decide +kernel
theorem d_MO_failsAtBureau_38 : decode (mC m_MO_failsAtBureau) 38 = .ok (.bipush 99, 2) := by decide +kernel
theorem d_MO_failsAtBureau_40 : decode (mC m_MO_failsAtBureau) 40 = .ok (.invokevirtual 214, 3) := by decide +kernel
theorem d_MO_failsAtBureau_43 : decode (mC m_MO_failsAtBureau) 43 = .ok (.ifCond .ne 14, 3) := by decide +kernel
theorem d_MO_failsAtBureau_46 : decode (mC m_MO_failsAtBureau) 46 = .ok (.aload_n 0, 1) := by decide +kernel
theorem d_MO_failsAtBureau_47 : decode (mC m_MO_failsAtBureau) 47 = .ok (.iconst 3, 1) := by decide +kernel
theorem d_MO_failsAtBureau_48 : decode (mC m_MO_failsAtBureau) 48 = .ok (.iconst 1, 1) := by decide +kernel
theorem d_MO_failsAtBureau_49 : decode (mC m_MO_failsAtBureau) 49 = .ok (.bipush 99, 2) := by decide +kernel
theorem d_MO_failsAtBureau_51 : decode (mC m_MO_failsAtBureau) 51 = .ok (.invokevirtual 214, 3) := by decide +kernel
theorem d_MO_failsAtBureau_54 : decode (mC m_MO_failsAtBureau) 54 = .ok (.ifCond .eq 5, 3) := by decide +kernel
theorem d_MO_failsAtBureau_57 : decode (mC m_MO_failsAtBureau) 57 = .ok (.iconst 1, 1) := by decide +kernel
theorem d_MO_failsAtBureau_58 : decode (mC m_MO_failsAtBureau) 58 = .ok (.ireturn, 1) := by decide +kernel
theorem d_MO_failsAtBureau_59 : decode (mC m_MO_failsAtBureau) 59 = .ok (.aload_n 0, 1) := by decide +kernel
theorem d_MO_failsAtBureau_60 : decode (mC m_MO_failsAtBureau) 60 = .ok (.iconst 4, 1) := by decide +kernel
theorem d_MO_failsAtBureau_61 : decode (mC m_MO_failsAtBureau) 61 = .ok (.iconst 1, 1) := by decide +kernel
theorem d_MO_failsAtBureau_62 : decode (mC m_MO_failsAtBureau) 62 = .ok (.bipush 50, 2) := by decide +kernel
theorem d_MO_failsAtBureau_64 : decode (mC m_MO_failsAtBureau) 64 = .ok (.invokevirtual 214, 3) := by decide +kernel
theorem d_MO_failsAtBureau_67 : decode (mC m_MO_failsAtBureau) 67 = .ok (.ifCond .ne 25, 3) := by decide +kernel
theorem d_MO_failsAtBureau_70 : decode (mC m_MO_failsAtBureau) 70 = .ok (.aload_n 0, 1) := by decide +kernel
theorem d_MO_failsAtBureau_71 : decode (mC m_MO_failsAtBureau) 71 = .ok (.iconst 5, 1) := by decide +kernel
theorem d_MO_failsAtBureau_72 : decode (mC m_MO_failsAtBureau) 72 = .ok (.iconst 0, 1) := by decide +kernel
theorem d_MO_failsAtBureau_73 : decode (mC m_MO_failsAtBureau) 73 = .ok (.iconst 3, 1) := by decide +kernel
theorem d_MO_failsAtBureau_74 : decode (mC m_MO_failsAtBureau) 74 = .ok (.invokevirtual 214, 3) := by decide +kernel
theorem d_MO_failsAtBureau_77 : decode (mC m_MO_failsAtBureau) 77 = .ok (.ifCond .ne 15, 3) := by decide +kernel
theorem d_MO_failsAtBureau_80 : decode (mC m_MO_failsAtBureau) 80 = .ok (.aload_n 0, 1) := by decide +kernel
theorem d_MO_failsAtBureau_81 : decode (mC m_MO_failsAtBureau) 81 = .ok (.bipush 6, 2) := by decide +kernel
theorem d_MO_failsAtBureau_83 : decode (mC m_MO_failsAtBureau) 83 = .ok (.iconst 0, 1) := by decide +kernel
theorem d_MO_failsAtBureau_84 : decode (mC m_MO_failsAtBureau) 84 = .ok (.ldc 217, 2) := by decide +kernel
theorem d_MO_failsAtBureau_86 : decode (mC m_MO_failsAtBureau) 86 = .ok (.invokevirtual 214, 3) := by decide +kernel
theorem d_MO_failsAtBureau_89 : decode (mC m_MO_failsAtBureau) 89 = .ok (.ifCond .eq 5, 3) := by decide +kernel
theorem d_MO_failsAtBureau_92 : decode (mC m_MO_failsAtBureau) 92 = .ok (.iconst 1, 1) := by decide +kernel
theorem d_MO_failsAtBureau_93 : decode (mC m_MO_failsAtBureau) 93 = .ok (.ireturn, 1) := by decide +kernel
theorem d_MO_failsAtBureau_94 : decode (mC m_MO_failsAtBureau) 94 = .ok (.iconst 0, 1) := by decide +kernel
theorem d_MO_failsAtBureau_95 : decode (mC m_MO_failsAtBureau) 95 = .ok (.istore_n 1, 1) := by decide +kernel
theorem d_MO_failsAtBureau_96 : decode (mC m_MO_failsAtBureau) 96 = .ok (.iload_n 1, 1) := by decide +kernel
theorem d_MO_failsAtBureau_97 : decode (mC m_MO_failsAtBureau) 97 = .ok (.bipush 6, 2) := by decide +kernel
theorem d_MO_failsAtBureau_99 : decode (mC m_MO_failsAtBureau) 99 = .ok (.if_icmp .gt 21, 3) := by decide +kernel
theorem d_MO_failsAtBureau_102 : decode (mC m_MO_failsAtBureau) 102 = .ok (.aload_n 0, 1) := by decide +kernel
theorem d_MO_failsAtBureau_103 : decode (mC m_MO_failsAtBureau) 103 = .ok (.getfield 7, 3) := by decide +kernel
theorem d_MO_failsAtBureau_106 : decode (mC m_MO_failsAtBureau) 106 = .ok (.iload_n 1, 1) := by decide +kernel
theorem d_MO_failsAtBureau_107 : decode (mC m_MO_failsAtBureau) 107 = .ok (.aload_n 0, 1) := by decide +kernel
theorem d_MO_failsAtBureau_108 : decode (mC m_MO_failsAtBureau) 108 = .ok (.getfield 25, 3) := by decide +kernel
theorem d_MO_failsAtBureau_111 : decode (mC m_MO_failsAtBureau) 111 = .ok (.iload_n 1, 1) := by decide +kernel
theorem d_MO_failsAtBureau_112 : decode (mC m_MO_failsAtBureau) 112 = .ok (.iaload, 1) := by decide +kernel
theorem d_MO_failsAtBureau_113 : decode (mC m_MO_failsAtBureau) 113 = .ok (.iastore, 1) := by decide +kernel
theorem d_MO_failsAtBureau_114 : decode (mC m_MO_failsAtBureau) 114 = .ok (.iinc 1 1, 3) := by decide +kernel
theorem d_MO_failsAtBureau_117 : decode (mC m_MO_failsAtBureau) 117 = .ok (.goto (-21), 3) := by decide +kernel
theorem d_MO_failsAtBureau_120 : decode (mC m_MO_failsAtBureau) 120 = .ok (.aload_n 0, 1) := by decide +kernel
theorem d_MO_failsAtBureau_121 : decode (mC m_MO_failsAtBureau) 121 = .ok (.invokevirtual 218, 3) := by decide +kernel
theorem d_MO_failsAtBureau_124 : decode (mC m_MO_failsAtBureau) 124 = .ok (.ireturn, 1) := by decide +kernel
theorem d_MO_hasWeight_0 : decode (mC m_MO_hasWeight) 0 = .ok (.iconst 0, 1) := by decide +kernel
theorem d_MO_hasWeight_1 : decode (mC m_MO_hasWeight) 1 = .ok (.istore_n 2, 1) := by decide +kernel
theorem d_MO_hasWeight_2 : decode (mC m_MO_hasWeight) 2 = .ok (.iload_n 2, 1) := by decide +kernel
theorem d_MO_hasWeight_3 : decode (mC m_MO_hasWeight) 3 = .ok (.aload_n 0, 1) := by decide +kernel
theorem d_MO_hasWeight_4 : decode (mC m_MO_hasWeight) 4 = .ok (.getfield 7, 3) := by decide +kernel
theorem d_MO_hasWeight_7 : decode (mC m_MO_hasWeight) 7 = .ok (.bipush 7, 2) := by decide +kernel
theorem d_MO_hasWeight_9 : decode (mC m_MO_hasWeight) 9 = .ok (.iaload, 1) := by decide +kernel
theorem d_MO_hasWeight_10 : decode (mC m_MO_hasWeight) 10 = .ok (.if_icmp .ge 24, 3) := by decide +kernel
theorem d_MO_hasWeight_13 : decode (mC m_MO_hasWeight) 13 = .ok (.aload_n 0, 1) := by decide +kernel
theorem d_MO_hasWeight_14 : decode (mC m_MO_hasWeight) 14 = .ok (.getfield 7, 3) := by decide +kernel
theorem d_MO_hasWeight_17 : decode (mC m_MO_hasWeight) 17 = .ok (.bipush 14, 2) := by decide +kernel
theorem d_MO_hasWeight_19 : decode (mC m_MO_hasWeight) 19 = .ok (.iload_n 2, 1) := by decide +kernel
theorem d_MO_hasWeight_20 : decode (mC m_MO_hasWeight) 20 = .ok (.iadd, 1) := by decide +kernel
theorem d_MO_hasWeight_21 : decode (mC m_MO_hasWeight) 21 = .ok (.iaload, 1) := by decide +kernel
theorem d_MO_hasWeight_22 : decode (mC m_MO_hasWeight) 22 = .ok (.iload_n 1, 1) := by decide +kernel
theorem d_MO_hasWeight_23 : decode (mC m_MO_hasWeight) 23 = .ok (.if_icmp .ne 5, 3) := by decide +kernel
theorem d_MO_hasWeight_26 : decode (mC m_MO_hasWeight) 26 = .ok (.iconst 1, 1) := by decide +kernel
theorem d_MO_hasWeight_27 : decode (mC m_MO_hasWeight) 27 = .ok (.ireturn, 1) := by decide +kernel
theorem d_MO_hasWeight_28 : decode (mC m_MO_hasWeight) 28 = .ok (.iinc 2 1, 3) := by decide +kernel
theorem d_MO_hasWeight_31 : decode (mC m_MO_hasWeight) 31 = .ok (.goto (-29), 3) := by decide +kernel
theorem d_MO_hasWeight_34 : decode (mC m_MO_hasWeight) 34 = .ok (.iconst 0, 1) := by decide +kernel
theorem d_MO_hasWeight_35 : decode (mC m_MO_hasWeight) 35 = .ok (.ireturn, 1) := by decide +kernel
theorem d_MO_addWeight_0 : decode (mC m_MO_addWeight) 0 = .ok (.aload_n 0, 1) := by decide +kernel
theorem d_MO_addWeight_1 : decode (mC m_MO_addWeight) 1 = .ok (.getfield 7, 3) := by decide +kernel
theorem d_MO_addWeight_4 : decode (mC m_MO_addWeight) 4 = .ok (.bipush 14, 2) := by decide +kernel
theorem d_MO_addWeight_6 : decode (mC m_MO_addWeight) 6 = .ok (.aload_n 0, 1) := by decide +kernel
theorem d_MO_addWeight_7 : decode (mC m_MO_addWeight) 7 = .ok (.getfield 7, 3) := by decide +kernel
theorem d_MO_addWeight_10 : decode (mC m_MO_addWeight) 10 = .ok (.bipush 7, 2) := by decide +kernel
theorem d_MO_addWeight_12 : decode (mC m_MO_addWeight) 12 = .ok (.iaload, 1) := by decide +kernel
theorem d_MO_addWeight_13 : decode (mC m_MO_addWeight) 13 = .ok (.iadd, 1) := by decide +kernel
theorem d_MO_addWeight_14 : decode (mC m_MO_addWeight) 14 = .ok (.iload_n 1, 1) := by decide +kernel
theorem d_MO_addWeight_15 : decode (mC m_MO_addWeight) 15 = .ok (.iastore, 1) := by decide +kernel
theorem d_MO_addWeight_16 : decode (mC m_MO_addWeight) 16 = .ok (.aload_n 0, 1) := by decide +kernel
theorem d_MO_addWeight_17 : decode (mC m_MO_addWeight) 17 = .ok (.getfield 7, 3) := by decide +kernel
theorem d_MO_addWeight_20 : decode (mC m_MO_addWeight) 20 = .ok (.bipush 7, 2) := by decide +kernel
theorem d_MO_addWeight_22 : decode (mC m_MO_addWeight) 22 = .ok (.dup2, 1) := by decide +kernel
theorem d_MO_addWeight_23 : decode (mC m_MO_addWeight) 23 = .ok (.iaload, 1) := by decide +kernel
theorem d_MO_addWeight_24 : decode (mC m_MO_addWeight) 24 = .ok (.iconst 1, 1) := by decide +kernel
theorem d_MO_addWeight_25 : decode (mC m_MO_addWeight) 25 = .ok (.iadd, 1) := by decide +kernel
theorem d_MO_addWeight_26 : decode (mC m_MO_addWeight) 26 = .ok (.iastore, 1) := by decide +kernel
theorem d_MO_addWeight_27 : decode (mC m_MO_addWeight) 27 = .ok (.return_, 1) := by decide +kernel
theorem d_MO_failsAtWeights_0 : decode (mC m_MO_failsAtWeights) 0 = .ok (.aload_n 0, 1) := by decide +kernel
theorem d_MO_failsAtWeights_1 : decode (mC m_MO_failsAtWeights) 1 = .ok (.invokevirtual 211, 3) := by decide +kernel
theorem d_MO_failsAtWeights_4 : decode (mC m_MO_failsAtWeights) 4 = .ok (.iconst 1, 1) := by decide +kernel
theorem d_MO_failsAtWeights_5 : decode (mC m_MO_failsAtWeights) 5 = .ok (.if_icmp .eq 9, 3) := by decide +kernel
theorem d_MO_failsAtWeights_8 : decode (mC m_MO_failsAtWeights) 8 = .ok (.aload_n 0, 1) := by decide +kernel
theorem d_MO_failsAtWeights_9 : decode (mC m_MO_failsAtWeights) 9 = .ok (.iconst 1, 1) := by decide +kernel
theorem d_MO_failsAtWeights_10 : decode (mC m_MO_failsAtWeights) 10 = .ok (.invokevirtual 202, 3) := by decide +kernel
theorem d_MO_failsAtWeights_13 : decode (mC m_MO_failsAtWeights) 13 = .ok (.ireturn, 1) := by decide +kernel
theorem d_MO_failsAtWeights_14 : decode (mC m_MO_failsAtWeights) 14 = .ok (.aload_n 0, 1) := by decide +kernel
theorem d_MO_failsAtWeights_15 : decode (mC m_MO_failsAtWeights) 15 = .ok (.invokevirtual 199, 3) := by decide +kernel
theorem d_MO_failsAtWeights_18 : decode (mC m_MO_failsAtWeights) 18 = .ok (.aload_n 0, 1) := by decide +kernel
theorem d_MO_failsAtWeights_19 : decode (mC m_MO_failsAtWeights) 19 = .ok (.getfield 7, 3) := by decide +kernel
theorem d_MO_failsAtWeights_22 : decode (mC m_MO_failsAtWeights) 22 = .ok (.bipush 7, 2) := by decide +kernel
theorem d_MO_failsAtWeights_24 : decode (mC m_MO_failsAtWeights) 24 = .ok (.iaload, 1) := by decide +kernel
theorem d_MO_failsAtWeights_25 : decode (mC m_MO_failsAtWeights) 25 = .ok (.ifCond .eq 11, 3) := by decide +kernel
theorem d_MO_failsAtWeights_28 : decode (mC m_MO_failsAtWeights) 28 = .ok (.aload_n 0, 1) := by decide +kernel
theorem d_MO_failsAtWeights_29 : decode (mC m_MO_failsAtWeights) 29 = .ok (.getfield 184, 3) := by decide +kernel
theorem d_MO_failsAtWeights_32 : decode (mC m_MO_failsAtWeights) 32 = .ok (.iconst 2, 1) := by decide +kernel
theorem d_MO_failsAtWeights_33 : decode (mC m_MO_failsAtWeights) 33 = .ok (.if_icmp .ne 71, 3) := by decide +kernel
theorem d_MO_failsAtWeights_36 : decode (mC m_MO_failsAtWeights) 36 = .ok (.aload_n 0, 1) := by decide +kernel
theorem d_MO_failsAtWeights_37 : decode (mC m_MO_failsAtWeights) 37 = .ok (.iconst 0, 1) := by decide +kernel
theorem d_MO_failsAtWeights_38 : decode (mC m_MO_failsAtWeights) 38 = .ok (.iconst 1, 1) := by decide +kernel
theorem d_MO_failsAtWeights_39 : decode (mC m_MO_failsAtWeights) 39 = .ok (.sipush 5000, 3) := by decide +kernel
theorem d_MO_failsAtWeights_42 : decode (mC m_MO_failsAtWeights) 42 = .ok (.invokevirtual 205, 3) := by decide +kernel
theorem d_MO_failsAtWeights_45 : decode (mC m_MO_failsAtWeights) 45 = .ok (.ifCond .eq 5, 3) := by decide +kernel
theorem d_MO_failsAtWeights_48 : decode (mC m_MO_failsAtWeights) 48 = .ok (.iconst 1, 1) := by decide +kernel
theorem d_MO_failsAtWeights_49 : decode (mC m_MO_failsAtWeights) 49 = .ok (.ireturn, 1) := by decide +kernel
theorem d_MO_failsAtWeights_50 : decode (mC m_MO_failsAtWeights) 50 = .ok (.aload_n 0, 1) := by decide +kernel
theorem d_MO_failsAtWeights_51 : decode (mC m_MO_failsAtWeights) 51 = .ok (.aload_n 0, 1) := by decide +kernel
theorem d_MO_failsAtWeights_52 : decode (mC m_MO_failsAtWeights) 52 = .ok (.getfield 25, 3) := by decide +kernel
theorem d_MO_failsAtWeights_55 : decode (mC m_MO_failsAtWeights) 55 = .ok (.iconst 0, 1) := by decide +kernel
theorem d_MO_failsAtWeights_56 : decode (mC m_MO_failsAtWeights) 56 = .ok (.iaload, 1) := by decide +kernel
theorem d_MO_failsAtWeights_57 : decode (mC m_MO_failsAtWeights) 57 = .ok (.invokevirtual 221, 3) := by decide +kernel
theorem d_MO_failsAtWeights_60 : decode (mC m_MO_failsAtWeights) 60 = .ok (.ifCond .eq 9, 3) := by decide +kernel
theorem d_MO_failsAtWeights_63 : decode (mC m_MO_failsAtWeights) 63 = .ok (.aload_n 0, 1) := by decide +kernel
theorem d_MO_failsAtWeights_64 : decode (mC m_MO_failsAtWeights) 64 = .ok (.iconst 3, 1) := by decide +kernel
theorem d_MO_failsAtWeights_65 : decode (mC m_MO_failsAtWeights) 65 = .ok (.invokevirtual 202, 3) := by decide +kernel
theorem d_MO_failsAtWeights_68 : decode (mC m_MO_failsAtWeights) 68 = .ok (.ireturn, 1) := by decide +kernel
theorem d_MO_failsAtWeights_69 : decode (mC m_MO_failsAtWeights) 69 = .ok (.aload_n 0, 1) := by decide +kernel
theorem d_MO_failsAtWeights_70 : decode (mC m_MO_failsAtWeights) 70 = .ok (.getfield 7, 3) := by decide +kernel
theorem d_MO_failsAtWeights_73 : decode (mC m_MO_failsAtWeights) 73 = .ok (.bipush 7, 2) := by decide +kernel
theorem d_MO_failsAtWeights_75 : decode (mC m_MO_failsAtWeights) 75 = .ok (.iaload, 1) := by decide +kernel
theorem d_MO_failsAtWeights_76 : decode (mC m_MO_failsAtWeights) 76 = .ok (.bipush 6, 2) := by decide +kernel
theorem d_MO_failsAtWeights_78 : decode (mC m_MO_failsAtWeights) 78 = .ok (.if_icmp .ne 9, 3) := by decide +kernel
theorem d_MO_failsAtWeights_81 : decode (mC m_MO_failsAtWeights) 81 = .ok (.aload_n 0, 1) := by decide +kernel
theorem d_MO_failsAtWeights_82 : decode (mC m_MO_failsAtWeights) 82 = .ok (.iconst 4, 1) := by decide +kernel
theorem d_MO_failsAtWeights_83 : decode (mC m_MO_failsAtWeights) 83 = .ok (.invokevirtual 202, 3) := by decide +kernel
theorem d_MO_failsAtWeights_86 : decode (mC m_MO_failsAtWeights) 86 = .ok (.ireturn, 1) := by decide +kernel
theorem d_MO_failsAtWeights_87 : decode (mC m_MO_failsAtWeights) 87 = .ok (.aload_n 0, 1) := by decide +kernel
theorem d_MO_failsAtWeights_88 : decode (mC m_MO_failsAtWeights) 88 = .ok (.aload_n 0, 1) := by decide +kernel
theorem d_MO_failsAtWeights_89 : decode (mC m_MO_failsAtWeights) 89 = .ok (.getfield 25, 3) := by decide +kernel
theorem d_MO_failsAtWeights_92 : decode (mC m_MO_failsAtWeights) 92 = .ok (.iconst 0, 1) := by decide +kernel
theorem d_MO_failsAtWeights_93 : decode (mC m_MO_failsAtWeights) 93 = .ok (.iaload, 1) := by decide +kernel
theorem d_MO_failsAtWeights_94 : decode (mC m_MO_failsAtWeights) 94 = .ok (.invokevirtual 38, 3) := by decide +kernel
theorem d_MO_failsAtWeights_97 : decode (mC m_MO_failsAtWeights) 97 = .ok (.aload_n 0, 1) := by decide +kernel
theorem d_MO_failsAtWeights_98 : decode (mC m_MO_failsAtWeights) 98 = .ok (.invokevirtual 199, 3) := by decide +kernel
theorem d_MO_failsAtWeights_101 : decode (mC m_MO_failsAtWeights) 101 = .ok (.goto (-83), 3) := by decide +kernel
theorem d_MO_failsAtWeights_104 : decode (mC m_MO_failsAtWeights) 104 = .ok (.aload_n 0, 1) := by decide +kernel
theorem d_MO_failsAtWeights_105 : decode (mC m_MO_failsAtWeights) 105 = .ok (.invokevirtual 208, 3) := by decide +kernel
theorem d_MO_failsAtWeights_108 : decode (mC m_MO_failsAtWeights) 108 = .ok (.ireturn, 1) := by decide +kernel
theorem d_MO_addShop_0 : decode (mC m_MO_addShop) 0 = .ok (.aload_n 0, 1) := by decide +kernel
theorem d_MO_addShop_1 : decode (mC m_MO_addShop) 1 = .ok (.getfield 7, 3) := by decide +kernel
theorem d_MO_addShop_4 : decode (mC m_MO_addShop) 4 = .ok (.bipush 8, 2) := by decide +kernel
theorem d_MO_addShop_6 : decode (mC m_MO_addShop) 6 = .ok (.iaload, 1) := by decide +kernel
theorem d_MO_addShop_7 : decode (mC m_MO_addShop) 7 = .ok (.istore_n 1, 1) := by decide +kernel
theorem d_MO_addShop_8 : decode (mC m_MO_addShop) 8 = .ok (.iconst 0, 1) := by decide +kernel
theorem d_MO_addShop_9 : decode (mC m_MO_addShop) 9 = .ok (.istore_n 2, 1) := by decide +kernel
theorem d_MO_addShop_10 : decode (mC m_MO_addShop) 10 = .ok (.iload_n 2, 1) := by decide +kernel
theorem d_MO_addShop_11 : decode (mC m_MO_addShop) 11 = .ok (.bipush 7, 2) := by decide +kernel
theorem d_MO_addShop_13 : decode (mC m_MO_addShop) 13 = .ok (.if_icmp .gt 21, 3) := by decide +kernel
theorem d_MO_addShop_16 : decode (mC m_MO_addShop) 16 = .ok (.aload_n 0, 1) := by decide +kernel
theorem d_MO_addShop_17 : decode (mC m_MO_addShop) 17 = .ok (.iload_n 1, 1) := by decide +kernel
theorem d_MO_addShop_18 : decode (mC m_MO_addShop) 18 = .ok (.iload_n 2, 1) := by decide +kernel
theorem d_MO_addShop_19 : decode (mC m_MO_addShop) 19 = .ok (.aload_n 0, 1) := by decide +kernel
theorem d_MO_addShop_20 : decode (mC m_MO_addShop) 20 = .ok (.getfield 25, 3) := by decide +kernel
theorem d_MO_addShop_23 : decode (mC m_MO_addShop) 23 = .ok (.iload_n 2, 1) := by decide +kernel
theorem d_MO_addShop_24 : decode (mC m_MO_addShop) 24 = .ok (.iaload, 1) := by decide +kernel
theorem d_MO_addShop_25 : decode (mC m_MO_addShop) 25 = .ok (.invokevirtual 65, 3) := by decide +kernel
theorem d_MO_addShop_28 : decode (mC m_MO_addShop) 28 = .ok (.iinc 2 1, 3) := by decide +kernel
theorem d_MO_addShop_31 : decode (mC m_MO_addShop) 31 = .ok (.goto (-21), 3) := by decide +kernel
theorem d_MO_addShop_34 : decode (mC m_MO_addShop) 34 = .ok (.aload_n 0, 1) := by decide +kernel
theorem d_MO_addShop_35 : decode (mC m_MO_addShop) 35 = .ok (.iload_n 1, 1) := by decide +kernel
theorem d_MO_addShop_36 : decode (mC m_MO_addShop) 36 = .ok (.bipush 10, 2) := by decide +kernel
theorem d_MO_addShop_38 : decode (mC m_MO_addShop) 38 = .ok (.iconst (-1), 1) := by decide +kernel
theorem d_MO_addShop_39 : decode (mC m_MO_addShop) 39 = .ok (.invokevirtual 65, 3) := by decide +kernel
theorem d_MO_addShop_42 : decode (mC m_MO_addShop) 42 = .ok (.aload_n 0, 1) := by decide +kernel
theorem d_MO_addShop_43 : decode (mC m_MO_addShop) 43 = .ok (.iload_n 1, 1) := by decide +kernel
theorem d_MO_addShop_44 : decode (mC m_MO_addShop) 44 = .ok (.bipush 12, 2) := by decide +kernel
theorem d_MO_addShop_46 : decode (mC m_MO_addShop) 46 = .ok (.iconst 1, 1) := by decide +kernel
theorem d_MO_addShop_47 : decode (mC m_MO_addShop) 47 = .ok (.invokevirtual 65, 3) := by decide +kernel
theorem d_MO_addShop_50 : decode (mC m_MO_addShop) 50 = .ok (.aload_n 0, 1) := by decide +kernel
theorem d_MO_addShop_51 : decode (mC m_MO_addShop) 51 = .ok (.getfield 7, 3) := by decide +kernel
theorem d_MO_addShop_54 : decode (mC m_MO_addShop) 54 = .ok (.bipush 12, 2) := by decide +kernel
theorem d_MO_addShop_56 : decode (mC m_MO_addShop) 56 = .ok (.dup2, 1) := by decide +kernel
theorem d_MO_addShop_57 : decode (mC m_MO_addShop) 57 = .ok (.iaload, 1) := by decide +kernel
theorem d_MO_addShop_58 : decode (mC m_MO_addShop) 58 = .ok (.aload_n 0, 1) := by decide +kernel
theorem d_MO_addShop_59 : decode (mC m_MO_addShop) 59 = .ok (.getfield 25, 3) := by decide +kernel
theorem d_MO_addShop_62 : decode (mC m_MO_addShop) 62 = .ok (.iconst 0, 1) := by decide +kernel
theorem d_MO_addShop_63 : decode (mC m_MO_addShop) 63 = .ok (.iaload, 1) := by decide +kernel
theorem d_MO_addShop_64 : decode (mC m_MO_addShop) 64 = .ok (.iadd, 1) := by decide +kernel
theorem d_MO_addShop_65 : decode (mC m_MO_addShop) 65 = .ok (.iastore, 1) := by decide +kernel
theorem d_MO_addShop_66 : decode (mC m_MO_addShop) 66 = .ok (.aload_n 0, 1) := by decide +kernel
theorem d_MO_addShop_67 : decode (mC m_MO_addShop) 67 = .ok (.getfield 7, 3) := by decide +kernel
theorem d_MO_addShop_70 : decode (mC m_MO_addShop) 70 = .ok (.bipush 8, 2) := by decide +kernel
theorem d_MO_addShop_72 : decode (mC m_MO_addShop) 72 = .ok (.dup2, 1) := by decide +kernel
theorem d_MO_addShop_73 : decode (mC m_MO_addShop) 73 = .ok (.iaload, 1) := by decide +kernel
theorem d_MO_addShop_74 : decode (mC m_MO_addShop) 74 = .ok (.iconst 1, 1) := by decide +kernel
theorem d_MO_addShop_75 : decode (mC m_MO_addShop) 75 = .ok (.iadd, 1) := by decide +kernel
theorem d_MO_addShop_76 : decode (mC m_MO_addShop) 76 = .ok (.iastore, 1) := by decide +kernel
theorem d_MO_addShop_77 : decode (mC m_MO_addShop) 77 = .ok (.return_, 1) := by decide +kernel
theorem d_MO_failsAtShop_0 : decode (mC m_MO_failsAtShop) 0 = .ok (.aload_n 0, 1) := by decide +kernel
theorem d_MO_failsAtShop_1 : decode (mC m_MO_failsAtShop) 1 = .ok (.invokevirtual 211, 3) := by decide +kernel
theorem d_MO_failsAtShop_4 : decode (mC m_MO_failsAtShop) 4 = .ok (.iconst 2, 1) := by decide +kernel
theorem d_MO_failsAtShop_5 : decode (mC m_MO_failsAtShop) 5 = .ok (.if_icmp .eq 9, 3) := by decide +kernel
theorem d_MO_failsAtShop_8 : decode (mC m_MO_failsAtShop) 8 = .ok (.aload_n 0, 1) := by decide +kernel
theorem d_MO_failsAtShop_9 : decode (mC m_MO_failsAtShop) 9 = .ok (.iconst 1, 1) := by decide +kernel
theorem d_MO_failsAtShop_10 : decode (mC m_MO_failsAtShop) 10 = .ok (.invokevirtual 202, 3) := by decide +kernel
theorem d_MO_failsAtShop_13 : decode (mC m_MO_failsAtShop) 13 = .ok (.ireturn, 1) := by decide +kernel
theorem d_MO_failsAtShop_14 : decode (mC m_MO_failsAtShop) 14 = .ok (.aload_n 0, 1) := by decide +kernel
theorem d_MO_failsAtShop_15 : decode (mC m_MO_failsAtShop) 15 = .ok (.getfield 7, 3) := by decide +kernel
theorem d_MO_failsAtShop_18 : decode (mC m_MO_failsAtShop) 18 = .ok (.bipush 8, 2) := by decide +kernel
theorem d_MO_failsAtShop_20 : decode (mC m_MO_failsAtShop) 20 = .ok (.iaload, 1) := by decide +kernel
theorem d_MO_failsAtShop_21 : decode (mC m_MO_failsAtShop) 21 = .ok (.bipush 8, 2) := by decide +kernel
theorem d_MO_failsAtShop_23 : decode (mC m_MO_failsAtShop) 23 = .ok (.if_icmp .ne 9, 3) := by decide +kernel
theorem d_MO_failsAtShop_26 : decode (mC m_MO_failsAtShop) 26 = .ok (.aload_n 0, 1) := by decide +kernel
theorem d_MO_failsAtShop_27 : decode (mC m_MO_failsAtShop) 27 = .ok (.iconst 4, 1) := by decide +kernel
theorem d_MO_failsAtShop_28 : decode (mC m_MO_failsAtShop) 28 = .ok (.invokevirtual 202, 3) := by decide +kernel
theorem d_MO_failsAtShop_31 : decode (mC m_MO_failsAtShop) 31 = .ok (.ireturn, 1) := by decide +kernel
theorem d_MO_failsAtShop_32 : decode (mC m_MO_failsAtShop) 32 = .ok (.aload_n 0, 1) := by decide +kernel
theorem d_MO_failsAtShop_33 : decode (mC m_MO_failsAtShop) 33 = .ok (.iconst 0, 1) := by decide +kernel
theorem d_MO_failsAtShop_34 : decode (mC m_MO_failsAtShop) 34 = .ok (.iconst 0, 1) := by decide +kernel
theorem d_MO_failsAtShop_35 : decode (mC m_MO_failsAtShop) 35 = .ok (.sipush 9999, 3) := by decide +kernel
theorem d_MO_failsAtShop_38 : decode (mC m_MO_failsAtShop) 38 = .ok (.invokevirtual 214, 3) := by decide +kernel
theorem d_MO_failsAtShop_41 : decode (mC m_MO_failsAtShop) 41 = .ok (.ifCond .ne 37, 3) := by decide +kernel
theorem d_MO_failsAtShop_44 : decode (mC m_MO_failsAtShop) 44 = .ok (.aload_n 0, 1) := by decide +kernel
theorem d_MO_failsAtShop_45 : decode (mC m_MO_failsAtShop) 45 = .ok (.iconst 1, 1) := by decide +kernel
theorem d_MO_failsAtShop_46 : decode (mC m_MO_failsAtShop) 46 = .ok (.iconst 0, 1) := by decide +kernel
theorem d_MO_failsAtShop_47 : decode (mC m_MO_failsAtShop) 47 = .ok (.sipush 1000, 3) := by decide +kernel
theorem d_MO_failsAtShop_50 : decode (mC m_MO_failsAtShop) 50 = .ok (.invokevirtual 214, 3) := by decide +kernel
theorem d_MO_failsAtShop_53 : decode (mC m_MO_failsAtShop) 53 = .ok (.ifCond .ne 25, 3) := by decide +kernel
theorem d_MO_failsAtShop_56 : decode (mC m_MO_failsAtShop) 56 = .ok (.aload_n 0, 1) := by decide +kernel
theorem d_MO_failsAtShop_57 : decode (mC m_MO_failsAtShop) 57 = .ok (.iconst 2, 1) := by decide +kernel
theorem d_MO_failsAtShop_58 : decode (mC m_MO_failsAtShop) 58 = .ok (.iconst 0, 1) := by decide +kernel
theorem d_MO_failsAtShop_59 : decode (mC m_MO_failsAtShop) 59 = .ok (.bipush 100, 2) := by decide +kernel
theorem d_MO_failsAtShop_61 : decode (mC m_MO_failsAtShop) 61 = .ok (.invokevirtual 214, 3) := by decide +kernel
theorem d_MO_failsAtShop_64 : decode (mC m_MO_failsAtShop) 64 = .ok (.ifCond .ne 14, 3) := by decide +kernel
theorem d_MO_failsAtShop_67 : decode (mC m_MO_failsAtShop) 67 = .ok (.aload_n 0, 1) := by decide +kernel
theorem d_MO_failsAtShop_68 : decode (mC m_MO_failsAtShop) 68 = .ok (.iconst 3, 1) := by decide +kernel
theorem d_MO_failsAtShop_69 : decode (mC m_MO_failsAtShop) 69 = .ok (.iconst 0, 1) := by decide +kernel
theorem d_MO_failsAtShop_70 : decode (mC m_MO_failsAtShop) 70 = .ok (.bipush 10, 2) := by decide +kernel
theorem d_MO_failsAtShop_72 : decode (mC m_MO_failsAtShop) 72 = .ok (.invokevirtual 214, 3) := by decide +kernel
theorem d_MO_failsAtShop_75 : decode (mC m_MO_failsAtShop) 75 = .ok (.ifCond .eq 5, 3) := by decide +kernel
theorem d_MO_failsAtShop_78 : decode (mC m_MO_failsAtShop) 78 = .ok (.iconst 1, 1) := by decide +kernel
theorem d_MO_failsAtShop_79 : decode (mC m_MO_failsAtShop) 79 = .ok (.ireturn, 1) := by decide +kernel
theorem d_MO_failsAtShop_80 : decode (mC m_MO_failsAtShop) 80 = .ok (.aload_n 0, 1) := by decide +kernel
theorem d_MO_failsAtShop_81 : decode (mC m_MO_failsAtShop) 81 = .ok (.iconst 4, 1) := by decide +kernel
theorem d_MO_failsAtShop_82 : decode (mC m_MO_failsAtShop) 82 = .ok (.iconst 1, 1) := by decide +kernel
theorem d_MO_failsAtShop_83 : decode (mC m_MO_failsAtShop) 83 = .ok (.sipush 5000, 3) := by decide +kernel
theorem d_MO_failsAtShop_86 : decode (mC m_MO_failsAtShop) 86 = .ok (.invokevirtual 214, 3) := by decide +kernel
theorem d_MO_failsAtShop_89 : decode (mC m_MO_failsAtShop) 89 = .ok (.ifCond .ne 38, 3) := by decide +kernel
theorem d_MO_failsAtShop_92 : decode (mC m_MO_failsAtShop) 92 = .ok (.aload_n 0, 1) := by decide +kernel
theorem d_MO_failsAtShop_93 : decode (mC m_MO_failsAtShop) 93 = .ok (.iconst 5, 1) := by decide +kernel
theorem d_MO_failsAtShop_94 : decode (mC m_MO_failsAtShop) 94 = .ok (.iconst 0, 1) := by decide +kernel
theorem d_MO_failsAtShop_95 : decode (mC m_MO_failsAtShop) 95 = .ok (.bipush 50, 2) := by decide +kernel
theorem d_MO_failsAtShop_97 : decode (mC m_MO_failsAtShop) 97 = .ok (.invokevirtual 214, 3) := by decide +kernel
theorem d_MO_failsAtShop_100 : decode (mC m_MO_failsAtShop) 100 = .ok (.ifCond .ne 27, 3) := by decide +kernel
theorem d_MO_failsAtShop_103 : decode (mC m_MO_failsAtShop) 103 = .ok (.aload_n 0, 1) := by decide +kernel
theorem d_MO_failsAtShop_104 : decode (mC m_MO_failsAtShop) 104 = .ok (.bipush 6, 2) := by decide +kernel
theorem d_MO_failsAtShop_106 : decode (mC m_MO_failsAtShop) 106 = .ok (.iconst 0, 1) := by decide +kernel
theorem d_MO_failsAtShop_107 : decode (mC m_MO_failsAtShop) 107 = .ok (.bipush 100, 2) := by decide +kernel
theorem d_MO_failsAtShop_109 : decode (mC m_MO_failsAtShop) 109 = .ok (.invokevirtual 214, 3) := by decide +kernel
theorem d_MO_failsAtShop_112 : decode (mC m_MO_failsAtShop) 112 = .ok (.ifCond .ne 15, 3) := by decide +kernel
theorem d_MO_failsAtShop_115 : decode (mC m_MO_failsAtShop) 115 = .ok (.aload_n 0, 1) := by decide +kernel
theorem d_MO_failsAtShop_116 : decode (mC m_MO_failsAtShop) 116 = .ok (.bipush 7, 2) := by decide +kernel
theorem d_MO_failsAtShop_118 : decode (mC m_MO_failsAtShop) 118 = .ok (.iconst 0, 1) := by decide +kernel
theorem d_MO_failsAtShop_119 : decode (mC m_MO_failsAtShop) 119 = .ok (.bipush 30, 2) := by decide +kernel
theorem d_MO_failsAtShop_121 : decode (mC m_MO_failsAtShop) 121 = .ok (.invokevirtual 214, 3) := by decide +kernel
theorem d_MO_failsAtShop_124 : decode (mC m_MO_failsAtShop) 124 = .ok (.ifCond .eq 5, 3) := by decide +kernel
theorem d_MO_failsAtShop_127 : decode (mC m_MO_failsAtShop) 127 = .ok (.iconst 1, 1) := by decide +kernel
theorem d_MO_failsAtShop_128 : decode (mC m_MO_failsAtShop) 128 = .ok (.ireturn, 1) := by decide +kernel
theorem d_MO_failsAtShop_129 : decode (mC m_MO_failsAtShop) 129 = .ok (.aload_n 0, 1) := by decide +kernel
theorem d_MO_failsAtShop_130 : decode (mC m_MO_failsAtShop) 130 = .ok (.getfield 25, 3) := by decide +kernel
theorem d_MO_failsAtShop_133 : decode (mC m_MO_failsAtShop) 133 = .ok (.iconst 1, 1) := by decide +kernel
theorem d_MO_failsAtShop_134 : decode (mC m_MO_failsAtShop) 134 = .ok (.dup2, 1) := by decide +kernel
theorem d_MO_failsAtShop_135 : decode (mC m_MO_failsAtShop) 135 = .ok (.iaload, 1) := by decide +kernel
theorem d_MO_failsAtShop_136 : decode (mC m_MO_failsAtShop) 136 = .ok (.sipush 500, 3) := by decide +kernel
theorem d_MO_failsAtShop_139 : decode (mC m_MO_failsAtShop) 139 = .ok (.isub, 1) := by decide +kernel
theorem d_MO_failsAtShop_140 : decode (mC m_MO_failsAtShop) 140 = .ok (.iastore, 1) := by decide +kernel
theorem d_MO_failsAtShop_141 : decode (mC m_MO_failsAtShop) 141 = .ok (.aload_n 0, 1) := by decide +kernel
theorem d_MO_failsAtShop_142 : decode (mC m_MO_failsAtShop) 142 = .ok (.getfield 25, 3) := by decide +kernel
theorem d_MO_failsAtShop_145 : decode (mC m_MO_failsAtShop) 145 = .ok (.iconst 2, 1) := by decide +kernel
theorem d_MO_failsAtShop_146 : decode (mC m_MO_failsAtShop) 146 = .ok (.dup2, 1) := by decide +kernel
theorem d_MO_failsAtShop_147 : decode (mC m_MO_failsAtShop) 147 = .ok (.iaload, 1) := by decide +kernel
theorem d_MO_failsAtShop_148 : decode (mC m_MO_failsAtShop) 148 = .ok (.bipush 50, 2) := by decide +kernel
theorem d_MO_failsAtShop_150 : decode (mC m_MO_failsAtShop) 150 = .ok (.isub, 1) := by decide +kernel
theorem d_MO_failsAtShop_151 : decode (mC m_MO_failsAtShop) 151 = .ok (.iastore, 1) := by decide +kernel
theorem d_MO_failsAtShop_152 : decode (mC m_MO_failsAtShop) 152 = .ok (.aload_n 0, 1) := by decide +kernel
theorem d_MO_failsAtShop_153 : decode (mC m_MO_failsAtShop) 153 = .ok (.getfield 25, 3) := by decide +kernel
theorem d_MO_failsAtShop_156 : decode (mC m_MO_failsAtShop) 156 = .ok (.iconst 3, 1) := by decide +kernel
theorem d_MO_failsAtShop_157 : decode (mC m_MO_failsAtShop) 157 = .ok (.dup2, 1) := by decide +kernel
theorem d_MO_failsAtShop_158 : decode (mC m_MO_failsAtShop) 158 = .ok (.iaload, 1) := by decide +kernel
theorem d_MO_failsAtShop_159 : decode (mC m_MO_failsAtShop) 159 = .ok (.iconst 5, 1) := by decide +kernel
theorem d_MO_failsAtShop_160 : decode (mC m_MO_failsAtShop) 160 = .ok (.isub, 1) := by decide +kernel
theorem d_MO_failsAtShop_161 : decode (mC m_MO_failsAtShop) 161 = .ok (.iastore, 1) := by decide +kernel
theorem d_MO_failsAtShop_162 : decode (mC m_MO_failsAtShop) 162 = .ok (.aload_n 0, 1) := by decide +kernel
theorem d_MO_failsAtShop_163 : decode (mC m_MO_failsAtShop) 163 = .ok (.invokevirtual 49, 3) := by decide +kernel
theorem d_MO_failsAtShop_166 : decode (mC m_MO_failsAtShop) 166 = .ok (.aload_n 0, 1) := by decide +kernel
theorem d_MO_failsAtShop_167 : decode (mC m_MO_failsAtShop) 167 = .ok (.invokevirtual 218, 3) := by decide +kernel
theorem d_MO_failsAtShop_170 : decode (mC m_MO_failsAtShop) 170 = .ok (.ireturn, 1) := by decide +kernel
theorem d_MO_failsAtSetup_0 : decode (mC m_MO_failsAtSetup) 0 = .ok (.aload_n 0, 1) := by decide +kernel
theorem d_MO_failsAtSetup_1 : decode (mC m_MO_failsAtSetup) 1 = .ok (.invokevirtual 224, 3) := by decide +kernel
theorem d_MO_failsAtSetup_4 : decode (mC m_MO_failsAtSetup) 4 = .ok (.iconst 0, 1) := by decide +kernel
theorem d_MO_failsAtSetup_5 : decode (mC m_MO_failsAtSetup) 5 = .ok (.istore_n 1, 1) := by decide +kernel
theorem d_MO_failsAtSetup_6 : decode (mC m_MO_failsAtSetup) 6 = .ok (.iload_n 1, 1) := by decide +kernel
theorem d_MO_failsAtSetup_7 : decode (mC m_MO_failsAtSetup) 7 = .ok (.sipush 140, 3) := by decide +kernel
theorem d_MO_failsAtSetup_10 : decode (mC m_MO_failsAtSetup) 10 = .ok (.if_icmp .ge 16, 3) := by decide +kernel
theorem d_MO_failsAtSetup_13 : decode (mC m_MO_failsAtSetup) 13 = .ok (.aload_n 0, 1) := by decide +kernel
theorem d_MO_failsAtSetup_14 : decode (mC m_MO_failsAtSetup) 14 = .ok (.getfield 7, 3) := by decide +kernel
theorem d_MO_failsAtSetup_17 : decode (mC m_MO_failsAtSetup) 17 = .ok (.iload_n 1, 1) := by decide +kernel
theorem d_MO_failsAtSetup_18 : decode (mC m_MO_failsAtSetup) 18 = .ok (.iconst 0, 1) := by decide +kernel
theorem d_MO_failsAtSetup_19 : decode (mC m_MO_failsAtSetup) 19 = .ok (.iastore, 1) := by decide +kernel
theorem d_MO_failsAtSetup_20 : decode (mC m_MO_failsAtSetup) 20 = .ok (.iinc 1 1, 3) := by decide +kernel
theorem d_MO_failsAtSetup_23 : decode (mC m_MO_failsAtSetup) 23 = .ok (.goto (-17), 3) := by decide +kernel
theorem d_MO_failsAtSetup_26 : decode (mC m_MO_failsAtSetup) 26 = .ok (.aload_n 0, 1) := by decide +kernel
theorem d_MO_failsAtSetup_27 : decode (mC m_MO_failsAtSetup) 27 = .ok (.invokevirtual 227, 3) := by decide +kernel
theorem d_MO_failsAtSetup_30 : decode (mC m_MO_failsAtSetup) 30 = .ok (.ifCond .ne 10, 3) := by decide +kernel
theorem d_MO_failsAtSetup_33 : decode (mC m_MO_failsAtSetup) 33 = .ok (.aload_n 0, 1) := by decide +kernel
theorem d_MO_failsAtSetup_34 : decode (mC m_MO_failsAtSetup) 34 = .ok (.invokevirtual 230, 3) := by decide +kernel
theorem d_MO_failsAtSetup_37 : decode (mC m_MO_failsAtSetup) 37 = .ok (.ifCond .eq 5, 3) := by decide +kernel
theorem d_MO_failsAtSetup_40 : decode (mC m_MO_failsAtSetup) 40 = .ok (.iconst 1, 1) := by decide +kernel
theorem d_MO_failsAtSetup_41 : decode (mC m_MO_failsAtSetup) 41 = .ok (.ireturn, 1) := by decide +kernel
theorem d_MO_failsAtSetup_42 : decode (mC m_MO_failsAtSetup) 42 = .ok (.aload_n 0, 1) := by decide +kernel
theorem d_MO_failsAtSetup_43 : decode (mC m_MO_failsAtSetup) 43 = .ok (.getfield 7, 3) := by decide +kernel
theorem d_MO_failsAtSetup_46 : decode (mC m_MO_failsAtSetup) 46 = .ok (.bipush 8, 2) := by decide +kernel
theorem d_MO_failsAtSetup_48 : decode (mC m_MO_failsAtSetup) 48 = .ok (.iaload, 1) := by decide +kernel
theorem d_MO_failsAtSetup_49 : decode (mC m_MO_failsAtSetup) 49 = .ok (.ifCond .eq 11, 3) := by decide +kernel
theorem d_MO_failsAtSetup_52 : decode (mC m_MO_failsAtSetup) 52 = .ok (.aload_n 0, 1) := by decide +kernel
theorem d_MO_failsAtSetup_53 : decode (mC m_MO_failsAtSetup) 53 = .ok (.invokevirtual 211, 3) := by decide +kernel
theorem d_MO_failsAtSetup_56 : decode (mC m_MO_failsAtSetup) 56 = .ok (.iconst 2, 1) := by decide +kernel
theorem d_MO_failsAtSetup_57 : decode (mC m_MO_failsAtSetup) 57 = .ok (.if_icmp .ne 12, 3) := by decide +kernel
theorem d_MO_failsAtSetup_60 : decode (mC m_MO_failsAtSetup) 60 = .ok (.aload_n 0, 1) := by decide +kernel
theorem d_MO_failsAtSetup_61 : decode (mC m_MO_failsAtSetup) 61 = .ok (.invokevirtual 233, 3) := by decide +kernel
theorem d_MO_failsAtSetup_64 : decode (mC m_MO_failsAtSetup) 64 = .ok (.ifCond .eq (-22), 3) := by decide +kernel
theorem d_MO_failsAtSetup_67 : decode (mC m_MO_failsAtSetup) 67 = .ok (.iconst 1, 1) := by decide +kernel
theorem d_MO_failsAtSetup_68 : decode (mC m_MO_failsAtSetup) 68 = .ok (.ireturn, 1) := by decide +kernel
theorem d_MO_failsAtSetup_69 : decode (mC m_MO_failsAtSetup) 69 = .ok (.aload_n 0, 1) := by decide +kernel
theorem d_MO_failsAtSetup_70 : decode (mC m_MO_failsAtSetup) 70 = .ok (.getfield 184, 3) := by decide +kernel
theorem d_MO_failsAtSetup_73 : decode (mC m_MO_failsAtSetup) 73 = .ok (.ifCond .eq 15, 3) := by decide +kernel
theorem d_MO_failsAtSetup_76 : decode (mC m_MO_failsAtSetup) 76 = .ok (.aload_n 0, 1) := by decide +kernel
theorem d_MO_failsAtSetup_77 : decode (mC m_MO_failsAtSetup) 77 = .ok (.iconst 1, 1) := by decide +kernel
theorem d_MO_failsAtSetup_78 : decode (mC m_MO_failsAtSetup) 78 = .ok (.invokevirtual 202, 3) := by decide +kernel
theorem d_MO_failsAtSetup_81 : decode (mC m_MO_failsAtSetup) 81 = .ok (.ifCond .eq 7, 3) := by decide +kernel
theorem d_MO_failsAtSetup_84 : decode (mC m_MO_failsAtSetup) 84 = .ok (.iconst 1, 1) := by decide +kernel
theorem d_MO_failsAtSetup_85 : decode (mC m_MO_failsAtSetup) 85 = .ok (.goto 4, 3) := by decide +kernel
theorem d_MO_failsAtSetup_88 : decode (mC m_MO_failsAtSetup) 88 = .ok (.iconst 0, 1) := by decide +kernel
theorem d_MO_failsAtSetup_89 : decode (mC m_MO_failsAtSetup) 89 = .ok (.ireturn, 1) := by decide +kernel
theorem d_MO_loadSetup_0 : decode (mC m_MO_loadSetup) 0 = .ok (.aload_n 0, 1) := by decide +kernel
theorem d_MO_loadSetup_1 : decode (mC m_MO_loadSetup) 1 = .ok (.iconst 0, 1) := by decide +kernel
theorem d_MO_loadSetup_2 : decode (mC m_MO_loadSetup) 2 = .ok (.putfield 52, 3) := by decide +kernel
theorem d_MO_loadSetup_5 : decode (mC m_MO_loadSetup) 5 = .ok (.aload_n 0, 1) := by decide +kernel
theorem d_MO_loadSetup_6 : decode (mC m_MO_loadSetup) 6 = .ok (.iconst 0, 1) := by decide +kernel
theorem d_MO_loadSetup_7 : decode (mC m_MO_loadSetup) 7 = .ok (.bipush 11, 2) := by decide +kernel
theorem d_MO_loadSetup_9 : decode (mC m_MO_loadSetup) 9 = .ok (.invokevirtual 61, 3) := by decide +kernel
theorem d_MO_loadSetup_12 : decode (mC m_MO_loadSetup) 12 = .ok (.aload_n 0, 1) := by decide +kernel
theorem d_MO_loadSetup_13 : decode (mC m_MO_loadSetup) 13 = .ok (.invokevirtual 236, 3) := by decide +kernel
theorem d_MO_loadSetup_16 : decode (mC m_MO_loadSetup) 16 = .ok (.istore_n 1, 1) := by decide +kernel
theorem d_MO_loadSetup_17 : decode (mC m_MO_loadSetup) 17 = .ok (.aload_n 0, 1) := by decide +kernel
theorem d_MO_loadSetup_18 : decode (mC m_MO_loadSetup) 18 = .ok (.iconst 0, 1) := by decide +kernel
theorem d_MO_loadSetup_19 : decode (mC m_MO_loadSetup) 19 = .ok (.putfield 151, 3) := by decide +kernel
theorem d_MO_loadSetup_22 : decode (mC m_MO_loadSetup) 22 = .ok (.iload_n 1, 1) := by decide +kernel
theorem d_MO_loadSetup_23 : decode (mC m_MO_loadSetup) 23 = .ok (.ifCond .eq 10, 3) := by decide +kernel
theorem d_MO_loadSetup_26 : decode (mC m_MO_loadSetup) 26 = .ok (.aload_n 0, 1) := by decide +kernel
theorem d_MO_loadSetup_27 : decode (mC m_MO_loadSetup) 27 = .ok (.bipush 11, 2) := by decide +kernel
theorem d_MO_loadSetup_29 : decode (mC m_MO_loadSetup) 29 = .ok (.iconst 0, 1) := by decide +kernel
theorem d_MO_loadSetup_30 : decode (mC m_MO_loadSetup) 30 = .ok (.invokevirtual 61, 3) := by decide +kernel
theorem d_MO_loadSetup_33 : decode (mC m_MO_loadSetup) 33 = .ok (.aload_n 0, 1) := by decide +kernel
theorem d_MO_loadSetup_34 : decode (mC m_MO_loadSetup) 34 = .ok (.iload_n 1, 1) := by decide +kernel
theorem d_MO_loadSetup_35 : decode (mC m_MO_loadSetup) 35 = .ok (.iconst 1, 1) := by decide +kernel
theorem d_MO_loadSetup_36 : decode (mC m_MO_loadSetup) 36 = .ok (.invokevirtual 154, 3) := by decide +kernel
theorem d_MO_loadSetup_39 : decode (mC m_MO_loadSetup) 39 = .ok (.ifCond .eq 5, 3) := by decide +kernel
theorem d_MO_loadSetup_42 : decode (mC m_MO_loadSetup) 42 = .ok (.iconst 0, 1) := by decide +kernel
theorem d_MO_loadSetup_43 : decode (mC m_MO_loadSetup) 43 = .ok (.ireturn, 1) := by decide +kernel
theorem d_MO_loadSetup_44 : decode (mC m_MO_loadSetup) 44 = .ok (.aload_n 0, 1) := by decide +kernel
theorem d_MO_loadSetup_45 : decode (mC m_MO_loadSetup) 45 = .ok (.bipush 11, 2) := by decide +kernel
theorem d_MO_loadSetup_47 : decode (mC m_MO_loadSetup) 47 = .ok (.invokevirtual 239, 3) := by decide +kernel
theorem d_MO_loadSetup_50 : decode (mC m_MO_loadSetup) 50 = .ok (.aload_n 0, 1) := by decide +kernel
theorem d_MO_loadSetup_51 : decode (mC m_MO_loadSetup) 51 = .ok (.getfield 7, 3) := by decide +kernel
theorem d_MO_loadSetup_54 : decode (mC m_MO_loadSetup) 54 = .ok (.bipush 8, 2) := by decide +kernel
theorem d_MO_loadSetup_56 : decode (mC m_MO_loadSetup) 56 = .ok (.iaload, 1) := by decide +kernel
theorem d_MO_loadSetup_57 : decode (mC m_MO_loadSetup) 57 = .ok (.ireturn, 1) := by decide +kernel
theorem d_MO_failsAtShopNumber_0 : decode (mC m_MO_failsAtShopNumber) 0 = .ok (.aload_n 0, 1) := by decide +kernel
theorem d_MO_failsAtShopNumber_1 : decode (mC m_MO_failsAtShopNumber) 1 = .ok (.iconst 0, 1) := by decide +kernel
theorem d_MO_failsAtShopNumber_2 : decode (mC m_MO_failsAtShopNumber) 2 = .ok (.iconst 0, 1) := by decide +kernel
theorem d_MO_failsAtShopNumber_3 : decode (mC m_MO_failsAtShopNumber) 3 = .ok (.aload_n 0, 1) := by decide +kernel
theorem d_MO_failsAtShopNumber_4 : decode (mC m_MO_failsAtShopNumber) 4 = .ok (.getfield 7, 3) := by decide +kernel
theorem d_MO_failsAtShopNumber_7 : decode (mC m_MO_failsAtShopNumber) 7 = .ok (.bipush 8, 2) := by decide +kernel
theorem d_MO_failsAtShopNumber_9 : decode (mC m_MO_failsAtShopNumber) 9 = .ok (.iaload, 1) := by decide +kernel
theorem d_MO_failsAtShopNumber_10 : decode (mC m_MO_failsAtShopNumber) 10 = .ok (.iconst 1, 1) := by decide +kernel
theorem d_MO_failsAtShopNumber_11 : decode (mC m_MO_failsAtShopNumber) 11 = .ok (.isub, 1) := by decide +kernel
theorem d_MO_failsAtShopNumber_12 : decode (mC m_MO_failsAtShopNumber) 12 = .ok (.invokevirtual 214, 3) := by decide +kernel
theorem d_MO_failsAtShopNumber_15 : decode (mC m_MO_failsAtShopNumber) 15 = .ok (.ireturn, 1) := by decide +kernel
theorem d_MO_failsAtRest_0 : decode (mC m_MO_failsAtRest) 0 = .ok (.iload_n 1, 1) := by decide +kernel
theorem d_MO_failsAtRest_1 : decode (mC m_MO_failsAtRest) 1 = .ok (.lookupswitch 60 #[(3, 27), (6, 36)], 27) := by decide +kernel
theorem d_MO_failsAtRest_28 : decode (mC m_MO_failsAtRest) 28 = .ok (.aload_n 0, 1) := by decide +kernel
theorem d_MO_failsAtRest_29 : decode (mC m_MO_failsAtRest) 29 = .ok (.iconst 0, 1) := by decide +kernel
theorem d_MO_failsAtRest_30 : decode (mC m_MO_failsAtRest) 30 = .ok (.iconst 1, 1) := by decide +kernel
theorem d_MO_failsAtRest_31 : decode (mC m_MO_failsAtRest) 31 = .ok (.bipush 100, 2) := by decide +kernel
theorem d_MO_failsAtRest_33 : decode (mC m_MO_failsAtRest) 33 = .ok (.invokevirtual 214, 3) := by decide +kernel
theorem d_MO_failsAtRest_36 : decode (mC m_MO_failsAtRest) 36 = .ok (.ireturn, 1) := by decide +kernel
theorem d_MO_failsAtRest_37 : decode (mC m_MO_failsAtRest) 37 = .ok (.aload_n 0, 1) := by decide +kernel
theorem d_MO_failsAtRest_38 : decode (mC m_MO_failsAtRest) 38 = .ok (.invokevirtual 242, 3) := by decide +kernel
theorem d_MO_failsAtRest_41 : decode (mC m_MO_failsAtRest) 41 = .ok (.ifCond .ne 14, 3) := by decide +kernel
theorem d_MO_failsAtRest_44 : decode (mC m_MO_failsAtRest) 44 = .ok (.aload_n 0, 1) := by decide +kernel
theorem d_MO_failsAtRest_45 : decode (mC m_MO_failsAtRest) 45 = .ok (.iconst 1, 1) := by decide +kernel
theorem d_MO_failsAtRest_46 : decode (mC m_MO_failsAtRest) 46 = .ok (.iconst 0, 1) := by decide +kernel
theorem d_MO_failsAtRest_47 : decode (mC m_MO_failsAtRest) 47 = .ok (.bipush 100, 2) := by decide +kernel
theorem d_MO_failsAtRest_49 : decode (mC m_MO_failsAtRest) 49 = .ok (.invokevirtual 214, 3) := by decide +kernel
theorem d_MO_failsAtRest_52 : decode (mC m_MO_failsAtRest) 52 = .ok (.ifCond .eq 7, 3) := by decide +kernel
theorem d_MO_failsAtRest_55 : decode (mC m_MO_failsAtRest) 55 = .ok (.iconst 1, 1) := by decide +kernel
theorem d_MO_failsAtRest_56 : decode (mC m_MO_failsAtRest) 56 = .ok (.goto 4, 3) := by decide +kernel
theorem d_MO_failsAtRest_59 : decode (mC m_MO_failsAtRest) 59 = .ok (.iconst 0, 1) := by decide +kernel
theorem d_MO_failsAtRest_60 : decode (mC m_MO_failsAtRest) 60 = .ok (.ireturn, 1) := by decide +kernel
theorem d_MO_failsAtRest_61 : decode (mC m_MO_failsAtRest) 61 = .ok (.aload_n 0, 1) := by decide +kernel
theorem d_MO_failsAtRest_62 : decode (mC m_MO_failsAtRest) 62 = .ok (.invokevirtual 242, 3) := by decide +kernel
theorem d_MO_failsAtRest_65 : decode (mC m_MO_failsAtRest) 65 = .ok (.ireturn, 1) := by decide +kernel
theorem d_MO_failsAtCommand_0 : decode (mC m_MO_failsAtCommand) 0 = .ok (.aload_n 0, 1) := by decide +kernel
theorem d_MO_failsAtCommand_1 : decode (mC m_MO_failsAtCommand) 1 = .ok (.invokevirtual 211, 3) := by decide +kernel
theorem d_MO_failsAtCommand_4 : decode (mC m_MO_failsAtCommand) 4 = .ok (.istore_n 1, 1) := by decide +kernel
theorem d_MO_failsAtCommand_5 : decode (mC m_MO_failsAtCommand) 5 = .ok (.iload_n 1, 1) := by decide +kernel
theorem d_MO_failsAtCommand_6 : decode (mC m_MO_failsAtCommand) 6 = .ok (.iconst 3, 1) := by decide +kernel
theorem d_MO_failsAtCommand_7 : decode (mC m_MO_failsAtCommand) 7 = .ok (.bipush 8, 2) := by decide +kernel
theorem d_MO_failsAtCommand_9 : decode (mC m_MO_failsAtCommand) 9 = .ok (.invokestatic 161, 3) := by decide +kernel
theorem d_MO_failsAtCommand_12 : decode (mC m_MO_failsAtCommand) 12 = .ok (.ifCond .ne 9, 3) := by decide +kernel
theorem d_MO_failsAtCommand_15 : decode (mC m_MO_failsAtCommand) 15 = .ok (.aload_n 0, 1) := by decide +kernel
theorem d_MO_failsAtCommand_16 : decode (mC m_MO_failsAtCommand) 16 = .ok (.iconst 1, 1) := by decide +kernel
theorem d_MO_failsAtCommand_17 : decode (mC m_MO_failsAtCommand) 17 = .ok (.invokevirtual 202, 3) := by decide +kernel
theorem d_MO_failsAtCommand_20 : decode (mC m_MO_failsAtCommand) 20 = .ok (.ireturn, 1) := by decide +kernel
theorem d_MO_failsAtCommand_21 : decode (mC m_MO_failsAtCommand) 21 = .ok (.aload_n 0, 1) := by decide +kernel
theorem d_MO_failsAtCommand_22 : decode (mC m_MO_failsAtCommand) 22 = .ok (.getfield 196, 3) := by decide +kernel
theorem d_MO_failsAtCommand_25 : decode (mC m_MO_failsAtCommand) 25 = .ok (.bipush 20, 2) := by decide +kernel
theorem d_MO_failsAtCommand_27 : decode (mC m_MO_failsAtCommand) 27 = .ok (.if_icmp .ne 9, 3) := by decide +kernel
theorem d_MO_failsAtCommand_30 : decode (mC m_MO_failsAtCommand) 30 = .ok (.aload_n 0, 1) := by decide +kernel
theorem d_MO_failsAtCommand_31 : decode (mC m_MO_failsAtCommand) 31 = .ok (.iconst 4, 1) := by decide +kernel
theorem d_MO_failsAtCommand_32 : decode (mC m_MO_failsAtCommand) 32 = .ok (.invokevirtual 202, 3) := by decide +kernel
theorem d_MO_failsAtCommand_35 : decode (mC m_MO_failsAtCommand) 35 = .ok (.ireturn, 1) := by decide +kernel
theorem d_MO_failsAtCommand_36 : decode (mC m_MO_failsAtCommand) 36 = .ok (.aload_n 0, 1) := by decide +kernel
theorem d_MO_failsAtCommand_37 : decode (mC m_MO_failsAtCommand) 37 = .ok (.iload_n 1, 1) := by decide +kernel
theorem d_MO_failsAtCommand_38 : decode (mC m_MO_failsAtCommand) 38 = .ok (.invokevirtual 245, 3) := by decide +kernel
theorem d_MO_failsAtCommand_41 : decode (mC m_MO_failsAtCommand) 41 = .ok (.ifCond .eq 5, 3) := by decide +kernel
theorem d_MO_failsAtCommand_44 : decode (mC m_MO_failsAtCommand) 44 = .ok (.iconst 1, 1) := by decide +kernel
theorem d_MO_failsAtCommand_45 : decode (mC m_MO_failsAtCommand) 45 = .ok (.ireturn, 1) := by decide +kernel
theorem d_MO_failsAtCommand_46 : decode (mC m_MO_failsAtCommand) 46 = .ok (.aload_n 0, 1) := by decide +kernel
theorem d_MO_failsAtCommand_47 : decode (mC m_MO_failsAtCommand) 47 = .ok (.getfield 28, 3) := by decide +kernel
theorem d_MO_failsAtCommand_50 : decode (mC m_MO_failsAtCommand) 50 = .ok (.iconst 3, 1) := by decide +kernel
theorem d_MO_failsAtCommand_51 : decode (mC m_MO_failsAtCommand) 51 = .ok (.aload_n 0, 1) := by decide +kernel
theorem d_MO_failsAtCommand_52 : decode (mC m_MO_failsAtCommand) 52 = .ok (.getfield 196, 3) := by decide +kernel
theorem d_MO_failsAtCommand_55 : decode (mC m_MO_failsAtCommand) 55 = .ok (.imul, 1) := by decide +kernel
theorem d_MO_failsAtCommand_56 : decode (mC m_MO_failsAtCommand) 56 = .ok (.iload_n 1, 1) := by decide +kernel
theorem d_MO_failsAtCommand_57 : decode (mC m_MO_failsAtCommand) 57 = .ok (.iastore, 1) := by decide +kernel
theorem d_MO_failsAtCommand_58 : decode (mC m_MO_failsAtCommand) 58 = .ok (.aload_n 0, 1) := by decide +kernel
theorem d_MO_failsAtCommand_59 : decode (mC m_MO_failsAtCommand) 59 = .ok (.getfield 28, 3) := by decide +kernel
theorem d_MO_failsAtCommand_62 : decode (mC m_MO_failsAtCommand) 62 = .ok (.iconst 3, 1) := by decide +kernel
theorem d_MO_failsAtCommand_63 : decode (mC m_MO_failsAtCommand) 63 = .ok (.aload_n 0, 1) := by decide +kernel
theorem d_MO_failsAtCommand_64 : decode (mC m_MO_failsAtCommand) 64 = .ok (.getfield 196, 3) := by decide +kernel
theorem d_MO_failsAtCommand_67 : decode (mC m_MO_failsAtCommand) 67 = .ok (.imul, 1) := by decide +kernel
theorem d_MO_failsAtCommand_68 : decode (mC m_MO_failsAtCommand) 68 = .ok (.iconst 1, 1) := by decide +kernel
theorem d_MO_failsAtCommand_69 : decode (mC m_MO_failsAtCommand) 69 = .ok (.iadd, 1) := by decide +kernel
theorem d_MO_failsAtCommand_70 : decode (mC m_MO_failsAtCommand) 70 = .ok (.aload_n 0, 1) := by decide +kernel
theorem d_MO_failsAtCommand_71 : decode (mC m_MO_failsAtCommand) 71 = .ok (.getfield 25, 3) := by decide +kernel
theorem d_MO_failsAtCommand_74 : decode (mC m_MO_failsAtCommand) 74 = .ok (.iconst 0, 1) := by decide +kernel
theorem d_MO_failsAtCommand_75 : decode (mC m_MO_failsAtCommand) 75 = .ok (.iaload, 1) := by decide +kernel
theorem d_MO_failsAtCommand_76 : decode (mC m_MO_failsAtCommand) 76 = .ok (.iastore, 1) := by decide +kernel
theorem d_MO_failsAtCommand_77 : decode (mC m_MO_failsAtCommand) 77 = .ok (.aload_n 0, 1) := by decide +kernel
theorem d_MO_failsAtCommand_78 : decode (mC m_MO_failsAtCommand) 78 = .ok (.getfield 28, 3) := by decide +kernel
theorem d_MO_failsAtCommand_81 : decode (mC m_MO_failsAtCommand) 81 = .ok (.iconst 3, 1) := by decide +kernel
theorem d_MO_failsAtCommand_82 : decode (mC m_MO_failsAtCommand) 82 = .ok (.aload_n 0, 1) := by decide +kernel
theorem d_MO_failsAtCommand_83 : decode (mC m_MO_failsAtCommand) 83 = .ok (.getfield 196, 3) := by decide +kernel
theorem d_MO_failsAtCommand_86 : decode (mC m_MO_failsAtCommand) 86 = .ok (.imul, 1) := by decide +kernel
theorem d_MO_failsAtCommand_87 : decode (mC m_MO_failsAtCommand) 87 = .ok (.iconst 2, 1) := by decide +kernel
theorem d_MO_failsAtCommand_88 : decode (mC m_MO_failsAtCommand) 88 = .ok (.iadd, 1) := by decide +kernel
theorem d_MO_failsAtCommand_89 : decode (mC m_MO_failsAtCommand) 89 = .ok (.aload_n 0, 1) := by decide +kernel
theorem d_MO_failsAtCommand_90 : decode (mC m_MO_failsAtCommand) 90 = .ok (.getfield 25, 3) := by decide +kernel
theorem d_MO_failsAtCommand_93 : decode (mC m_MO_failsAtCommand) 93 = .ok (.iconst 1, 1) := by decide +kernel
theorem d_MO_failsAtCommand_94 : decode (mC m_MO_failsAtCommand) 94 = .ok (.iaload, 1) := by decide +kernel
theorem d_MO_failsAtCommand_95 : decode (mC m_MO_failsAtCommand) 95 = .ok (.iastore, 1) := by decide +kernel
theorem d_MO_failsAtCommand_96 : decode (mC m_MO_failsAtCommand) 96 = .ok (.aload_n 0, 1) := by decide +kernel
theorem d_MO_failsAtCommand_97 : decode (mC m_MO_failsAtCommand) 97 = .ok (.dup, 1) := by decide +kernel
theorem d_MO_failsAtCommand_98 : decode (mC m_MO_failsAtCommand) 98 = .ok (.getfield 196, 3) := by decide +kernel
theorem d_MO_failsAtCommand_101 : decode (mC m_MO_failsAtCommand) 101 = .ok (.iconst 1, 1) := by decide +kernel
theorem d_MO_failsAtCommand_102 : decode (mC m_MO_failsAtCommand) 102 = .ok (.iadd, 1) := by decide +kernel
theorem d_MO_failsAtCommand_103 : decode (mC m_MO_failsAtCommand) 103 = .ok (.putfield 196, 3) := by decide +kernel
theorem d_MO_failsAtCommand_106 : decode (mC m_MO_failsAtCommand) 106 = .ok (.aload_n 0, 1) := by decide +kernel
theorem d_MO_failsAtCommand_107 : decode (mC m_MO_failsAtCommand) 107 = .ok (.invokevirtual 218, 3) := by decide +kernel
theorem d_MO_failsAtCommand_110 : decode (mC m_MO_failsAtCommand) 110 = .ok (.ireturn, 1) := by decide +kernel
theorem d_MO_failsAtScript_0 : decode (mC m_MO_failsAtScript) 0 = .ok (.aload_n 0, 1) := by decide +kernel
theorem d_MO_failsAtScript_1 : decode (mC m_MO_failsAtScript) 1 = .ok (.invokevirtual 224, 3) := by decide +kernel
theorem d_MO_failsAtScript_4 : decode (mC m_MO_failsAtScript) 4 = .ok (.iconst 0, 1) := by decide +kernel
theorem d_MO_failsAtScript_5 : decode (mC m_MO_failsAtScript) 5 = .ok (.istore_n 1, 1) := by decide +kernel
theorem d_MO_failsAtScript_6 : decode (mC m_MO_failsAtScript) 6 = .ok (.iload_n 1, 1) := by decide +kernel
theorem d_MO_failsAtScript_7 : decode (mC m_MO_failsAtScript) 7 = .ok (.sipush 500, 3) := by decide +kernel
theorem d_MO_failsAtScript_10 : decode (mC m_MO_failsAtScript) 10 = .ok (.if_icmp .gt 25, 3) := by decide +kernel
theorem d_MO_failsAtScript_13 : decode (mC m_MO_failsAtScript) 13 = .ok (.aload_n 0, 1) := by decide +kernel
theorem d_MO_failsAtScript_14 : decode (mC m_MO_failsAtScript) 14 = .ok (.getfield 184, 3) := by decide +kernel
theorem d_MO_failsAtScript_17 : decode (mC m_MO_failsAtScript) 17 = .ok (.ifCond .eq 18, 3) := by decide +kernel
theorem d_MO_failsAtScript_20 : decode (mC m_MO_failsAtScript) 20 = .ok (.aload_n 0, 1) := by decide +kernel
theorem d_MO_failsAtScript_21 : decode (mC m_MO_failsAtScript) 21 = .ok (.invokevirtual 248, 3) := by decide +kernel
theorem d_MO_failsAtScript_24 : decode (mC m_MO_failsAtScript) 24 = .ok (.ifCond .eq 5, 3) := by decide +kernel
theorem d_MO_failsAtScript_27 : decode (mC m_MO_failsAtScript) 27 = .ok (.iconst 1, 1) := by decide +kernel
theorem d_MO_failsAtScript_28 : decode (mC m_MO_failsAtScript) 28 = .ok (.ireturn, 1) := by decide +kernel
theorem d_MO_failsAtScript_29 : decode (mC m_MO_failsAtScript) 29 = .ok (.iinc 1 1, 3) := by decide +kernel
theorem d_MO_failsAtScript_32 : decode (mC m_MO_failsAtScript) 32 = .ok (.goto (-26), 3) := by decide +kernel
theorem d_MO_failsAtScript_35 : decode (mC m_MO_failsAtScript) 35 = .ok (.iconst 0, 1) := by decide +kernel
theorem d_MO_failsAtScript_36 : decode (mC m_MO_failsAtScript) 36 = .ok (.ireturn, 1) := by decide +kernel
set_option maxRecDepth 20000 in
set_option maxHeartbeats 4000000 in
theorem ce_MO_failsAtBureau {E : En} {h : Hp} {m st mi nu co wd n : Nat} {c0 G0 T Ti N K : Nat → Int32} {R : List (Nat × (Nat → Int32))} {cm : Nat} {q : Ps} {w : Int32} {V : Nat → Int32} {B : Bu} (hM : MpOk h m st mi nu co wd) (nd : (m :: st :: mi :: nu :: co :: wd :: R.map Prod.fst).Nodup) (hn : n ≤ 500) (hc : c0 5 = nI n) (hT : ∀ j, j < n → Ti j = T j) (hq : TW T n q.1) (hv : VQ q w) (hZ : ∀ j, j < 140 → G0 j = 0) : CT E m_MO_failsAtBureau [.ref m] (wL h ((m, (rQ c0 cm q w)) :: (st, G0) :: (mi, Ti) :: (nu, N) :: (co, K) :: (wd, wdR) :: R)) 0 0 (fun v1 h9 => ∃ z : Int32 × (Nat → Int32) × (Nat → Int32), (VQ (Y_bur T n q V B).2.1 z.1 ∧ TW T n (Y_bur T n q V B).2.1.1 ∧ (∀ j, 140 ≤ j → z.2.2 j = G0 j) ∧ ((Y_bur T n q V B).1 = true → z.2.2 = enc 0 0 (Y_bur T n q V B).2.2.2 G0)) ∧ v1 = some (.int (bI (!(Y_bur T n q V B).1))) ∧ h9 = wL h ((m, (rQ c0 cm (Y_bur T n q V B).2.1 z.1)) :: (st, z.2.2) :: (mi, Ti) :: (nu, z.2.1) :: (co, K) :: (wd, wdR) :: R)) noX := by
  refine ct_of rfl (by decide +kernel) (Nat.le_of_ble_eq_true rfl) ?_
  show G E m_MO_failsAtBureau 0 [(0, .ref m)] [] (wL h ((m, (rQ c0 cm q w)) :: (st, G0) :: (mi, Ti) :: (nu, N) :: (co, K) :: (wd, wdR) :: R)) 0 0 _ noX
  obtain ⟨k_m, r_m_0, k_st, l_st, r_m_4, k_mi, l_mi, r_m_12, k_nu, l_nu, r_m_13, k_co, l_co, r_m_18, k_wd, l_wd⟩ := id hM
  refine g_aload_n (pc := 0) d_MO_failsAtBureau_0 rfl 0 rfl ?_
  refine g_cV1 (pc := 1) (ci := 7) (As := []) d_MO_failsAtBureau_1 rfl mv_MO_wordOf st_MO_failsAtBureau_211 rfl rfl (by decide) rfl rfl (Nat.le_of_ble_eq_true rfl) k_m (cm_MO_wordOf hM nd hn hc hT hq) ?_
  refine g_if_eq (pc := 4) (tgt := 13) d_MO_failsAtBureau_4 (by decide) (fun c_4 => ?_) (fun c_4 => ?_)
  · skip
    have hw1 : Y_isw T q.1 1 = true := (Z_word_iff (w0 := 0) (by omega)).mp ((nI_eq (b := 0) (by have := Z_word_le (T := T) (t := q.1) 9 0 rfl; omega) (by omega)).mp c_4)
    have bh0 := BH_next (T := T) hq.1
    obtain ⟨q0, hq0⟩ : ∃ z, z = Y_next T n q := ⟨_, rfl⟩
    rw [← hq0] at bh0
    have hr0 : Y_row T n RB 7 0 (Y_next T n q) V = Y_row T n RB 7 0 q0 V := by rw [hq0]
    refine g_h (h' := wL h ((m, (rM c0 cm q.1.2.2.1 q.1.1 q.1.2.1 w q0.2.2.1 q0.2.2.2)) :: (st, G0) :: (mi, Ti) :: (nu, N) :: (co, K) :: (wd, wdR) :: R)) (by rw [hq0]; rfl) ?_
    refine g_aload_n (pc := 13) d_MO_failsAtBureau_13 rfl 0 rfl ?_
    refine g_iconst (pc := 14) (v := 0) d_MO_failsAtBureau_14 (by decide) ?_
    refine g_iconst (pc := 15) (v := 0) d_MO_failsAtBureau_15 (by decide) ?_
    refine g_bipush (pc := 16) (v := 50) d_MO_failsAtBureau_16 (by decide) ?_
    refine g_fn (pc := 18) (p := 0) (lo := 0) (hi := 50) (q := q0) rfl d_MO_failsAtBureau_18 st_MO_failsAtBureau_214 hM nd hn hc hT bh0 (by omega) (by decide) (by decide) (fun w9 y9 vq9 tw9 => ?_) (fun q1 e1 k1 a1 w1 v1 y0 hq1 hv1 bh1 => ?_)
    · skip
      refine g_if_ne (pc := 21) (tgt := 57) d_MO_failsAtBureau_21 (by decide) (fun c_21 => ?_) (fun c_21 => ?_)
      · skip
        refine g_iconst (pc := 57) (v := 1) d_MO_failsAtBureau_57 (by decide) ?_
        refine g_zret (pc := 58) d_MO_failsAtBureau_58 rfl (by first | rfl | exact nar_bI _) ?_
        have er := hr0.trans (Y_row_f (l := RB) (i := 0) (d := 6) y9)
        have ey := Y_bur_f2 (B := B) hw1 er
        refine ⟨(w9, N, G0), ?_, ?_, ?_⟩
        · rw [ey]; exact ⟨vq9, tw9, fun _ _ => rfl, fun z => by cases z⟩
        · rw [ey]; rfl
        · rw [ey]; rfl
      · exact absurd c_21 (by decide)
    · skip
      have hr1 := hr0.trans ((Y_row_t (l := RB) (i := 0) (d := 6) y0).trans (by rw [← hq1, ← hv1]))
      refine g_if_ne (pc := 21) (tgt := 57) d_MO_failsAtBureau_21 (by decide) (fun c => absurd rfl c) (fun _ => ?_)
      refine g_aload_n (pc := 24) d_MO_failsAtBureau_24 rfl 0 rfl ?_
      refine g_iconst (pc := 25) (v := 1) d_MO_failsAtBureau_25 (by decide) ?_
      refine g_iconst (pc := 26) (v := 0) d_MO_failsAtBureau_26 (by decide) ?_
      refine g_bipush (pc := 27) (v := 50) d_MO_failsAtBureau_27 (by decide) ?_
      refine g_fn (pc := 29) (p := 1) (lo := 0) (hi := 50) (q := q1) rfl d_MO_failsAtBureau_29 st_MO_failsAtBureau_214 hM nd hn hc hT bh1 (by omega) (by decide) (by decide) (fun w9 y9 vq9 tw9 => ?_) (fun q2 e2 k2 a2 w2 v2 y1 hq2 hv2 bh2 => ?_)
      · skip
        refine g_if_ne (pc := 32) (tgt := 57) d_MO_failsAtBureau_32 (by decide) (fun c_32 => ?_) (fun c_32 => ?_)
        · skip
          refine g_iconst (pc := 57) (v := 1) d_MO_failsAtBureau_57 (by decide) ?_
          refine g_zret (pc := 58) d_MO_failsAtBureau_58 rfl (by first | rfl | exact nar_bI _) ?_
          have er := hr1.trans (Y_row_f (l := RB) (i := 1) (d := 5) y9)
          have ey := Y_bur_f2 (B := B) hw1 er
          refine ⟨(w9, (u1 N 0 v1), G0), ?_, ?_, ?_⟩
          · rw [ey]; exact ⟨vq9, tw9, fun _ _ => rfl, fun z => by cases z⟩
          · rw [ey]; rfl
          · rw [ey]; rfl
        · exact absurd c_32 (by decide)
      · skip
        have hr2 := hr1.trans ((Y_row_t (l := RB) (i := 1) (d := 5) y1).trans (by rw [← hq2, ← hv2]))
        refine g_if_ne (pc := 32) (tgt := 57) d_MO_failsAtBureau_32 (by decide) (fun c => absurd rfl c) (fun _ => ?_)
        refine g_aload_n (pc := 35) d_MO_failsAtBureau_35 rfl 0 rfl ?_
        refine g_iconst (pc := 36) (v := 2) d_MO_failsAtBureau_36 (by decide) ?_
        refine g_iconst (pc := 37) (v := 0) d_MO_failsAtBureau_37 (by decide) ?_
        refine g_bipush (pc := 38) (v := 99) d_MO_failsAtBureau_38 (by decide) ?_
        refine g_fn (pc := 40) (p := 2) (lo := 0) (hi := 99) (q := q2) rfl d_MO_failsAtBureau_40 st_MO_failsAtBureau_214 hM nd hn hc hT bh2 (by omega) (by decide) (by decide) (fun w9 y9 vq9 tw9 => ?_) (fun q3 e3 k3 a3 w3 v3 y2 hq3 hv3 bh3 => ?_)
        · skip
          refine g_if_ne (pc := 43) (tgt := 57) d_MO_failsAtBureau_43 (by decide) (fun c_43 => ?_) (fun c_43 => ?_)
          · skip
            refine g_iconst (pc := 57) (v := 1) d_MO_failsAtBureau_57 (by decide) ?_
            refine g_zret (pc := 58) d_MO_failsAtBureau_58 rfl (by first | rfl | exact nar_bI _) ?_
            have er := hr2.trans (Y_row_f (l := RB) (i := 2) (d := 4) y9)
            have ey := Y_bur_f2 (B := B) hw1 er
            refine ⟨(w9, (u1 (u1 N 0 v1) 1 v2), G0), ?_, ?_, ?_⟩
            · rw [ey]; exact ⟨vq9, tw9, fun _ _ => rfl, fun z => by cases z⟩
            · rw [ey]; rfl
            · rw [ey]; rfl
          · exact absurd c_43 (by decide)
        · skip
          have hr3 := hr2.trans ((Y_row_t (l := RB) (i := 2) (d := 4) y2).trans (by rw [← hq3, ← hv3]))
          refine g_if_ne (pc := 43) (tgt := 57) d_MO_failsAtBureau_43 (by decide) (fun c => absurd rfl c) (fun _ => ?_)
          refine g_aload_n (pc := 46) d_MO_failsAtBureau_46 rfl 0 rfl ?_
          refine g_iconst (pc := 47) (v := 3) d_MO_failsAtBureau_47 (by decide) ?_
          refine g_iconst (pc := 48) (v := 1) d_MO_failsAtBureau_48 (by decide) ?_
          refine g_bipush (pc := 49) (v := 99) d_MO_failsAtBureau_49 (by decide) ?_
          refine g_fn (pc := 51) (p := 3) (lo := 1) (hi := 99) (q := q3) rfl d_MO_failsAtBureau_51 st_MO_failsAtBureau_214 hM nd hn hc hT bh3 (by omega) (by decide) (by decide) (fun w9 y9 vq9 tw9 => ?_) (fun q4 e4 k4 a4 w4 v4 y3 hq4 hv4 bh4 => ?_)
          · skip
            refine g_if_eq (pc := 54) (tgt := 59) d_MO_failsAtBureau_54 (by decide) (fun c_54 => ?_) (fun c_54 => ?_)
            · exact absurd c_54 (by decide)
            · skip
              refine g_iconst (pc := 57) (v := 1) d_MO_failsAtBureau_57 (by decide) ?_
              refine g_zret (pc := 58) d_MO_failsAtBureau_58 rfl (by first | rfl | exact nar_bI _) ?_
              have er := hr3.trans (Y_row_f (l := RB) (i := 3) (d := 3) y9)
              have ey := Y_bur_f2 (B := B) hw1 er
              refine ⟨(w9, (u1 (u1 (u1 N 0 v1) 1 v2) 2 v3), G0), ?_, ?_, ?_⟩
              · rw [ey]; exact ⟨vq9, tw9, fun _ _ => rfl, fun z => by cases z⟩
              · rw [ey]; rfl
              · rw [ey]; rfl
          · skip
            have hr4 := hr3.trans ((Y_row_t (l := RB) (i := 3) (d := 3) y3).trans (by rw [← hq4, ← hv4]))
            refine g_if_eq (pc := 54) (tgt := 59) d_MO_failsAtBureau_54 (by decide) (fun _ => ?_) (fun c => absurd rfl c)
            refine g_aload_n (pc := 59) d_MO_failsAtBureau_59 rfl 0 rfl ?_
            refine g_iconst (pc := 60) (v := 4) d_MO_failsAtBureau_60 (by decide) ?_
            refine g_iconst (pc := 61) (v := 1) d_MO_failsAtBureau_61 (by decide) ?_
            refine g_bipush (pc := 62) (v := 50) d_MO_failsAtBureau_62 (by decide) ?_
            refine g_fn (pc := 64) (p := 4) (lo := 1) (hi := 50) (q := q4) rfl d_MO_failsAtBureau_64 st_MO_failsAtBureau_214 hM nd hn hc hT bh4 (by omega) (by decide) (by decide) (fun w9 y9 vq9 tw9 => ?_) (fun q5 e5 k5 a5 w5 v5 y4 hq5 hv5 bh5 => ?_)
            · skip
              refine g_if_ne (pc := 67) (tgt := 92) d_MO_failsAtBureau_67 (by decide) (fun c_67 => ?_) (fun c_67 => ?_)
              · skip
                refine g_iconst (pc := 92) (v := 1) d_MO_failsAtBureau_92 (by decide) ?_
                refine g_zret (pc := 93) d_MO_failsAtBureau_93 rfl (by first | rfl | exact nar_bI _) ?_
                have er := hr4.trans (Y_row_f (l := RB) (i := 4) (d := 2) y9)
                have ey := Y_bur_f2 (B := B) hw1 er
                refine ⟨(w9, (u1 (u1 (u1 (u1 N 0 v1) 1 v2) 2 v3) 3 v4), G0), ?_, ?_, ?_⟩
                · rw [ey]; exact ⟨vq9, tw9, fun _ _ => rfl, fun z => by cases z⟩
                · rw [ey]; rfl
                · rw [ey]; rfl
              · exact absurd c_67 (by decide)
            · skip
              have hr5 := hr4.trans ((Y_row_t (l := RB) (i := 4) (d := 2) y4).trans (by rw [← hq5, ← hv5]))
              refine g_if_ne (pc := 67) (tgt := 92) d_MO_failsAtBureau_67 (by decide) (fun c => absurd rfl c) (fun _ => ?_)
              refine g_aload_n (pc := 70) d_MO_failsAtBureau_70 rfl 0 rfl ?_
              refine g_iconst (pc := 71) (v := 5) d_MO_failsAtBureau_71 (by decide) ?_
              refine g_iconst (pc := 72) (v := 0) d_MO_failsAtBureau_72 (by decide) ?_
              refine g_iconst (pc := 73) (v := 3) d_MO_failsAtBureau_73 (by decide) ?_
              refine g_fn (pc := 74) (p := 5) (lo := 0) (hi := 3) (q := q5) rfl d_MO_failsAtBureau_74 st_MO_failsAtBureau_214 hM nd hn hc hT bh5 (by omega) (by decide) (by decide) (fun w9 y9 vq9 tw9 => ?_) (fun q6 e6 k6 a6 w6 v6 y5 hq6 hv6 bh6 => ?_)
              · skip
                refine g_if_ne (pc := 77) (tgt := 92) d_MO_failsAtBureau_77 (by decide) (fun c_77 => ?_) (fun c_77 => ?_)
                · skip
                  refine g_iconst (pc := 92) (v := 1) d_MO_failsAtBureau_92 (by decide) ?_
                  refine g_zret (pc := 93) d_MO_failsAtBureau_93 rfl (by first | rfl | exact nar_bI _) ?_
                  have er := hr5.trans (Y_row_f (l := RB) (i := 5) (d := 1) y9)
                  have ey := Y_bur_f2 (B := B) hw1 er
                  refine ⟨(w9, (u1 (u1 (u1 (u1 (u1 N 0 v1) 1 v2) 2 v3) 3 v4) 4 v5), G0), ?_, ?_, ?_⟩
                  · rw [ey]; exact ⟨vq9, tw9, fun _ _ => rfl, fun z => by cases z⟩
                  · rw [ey]; rfl
                  · rw [ey]; rfl
                · exact absurd c_77 (by decide)
              · skip
                have hr6 := hr5.trans ((Y_row_t (l := RB) (i := 5) (d := 1) y5).trans (by rw [← hq6, ← hv6]))
                refine g_if_ne (pc := 77) (tgt := 92) d_MO_failsAtBureau_77 (by decide) (fun c => absurd rfl c) (fun _ => ?_)
                refine g_aload_n (pc := 80) d_MO_failsAtBureau_80 rfl 0 rfl ?_
                refine g_bipush (pc := 81) (v := 6) d_MO_failsAtBureau_81 (by decide) ?_
                refine g_iconst (pc := 83) (v := 0) d_MO_failsAtBureau_83 (by decide) ?_
                refine g_ldci (pc := 84) d_MO_failsAtBureau_84 co_MO_217 ?_
                refine g_fn (pc := 86) (p := 6) (lo := 0) (hi := 65536) (q := q6) rfl d_MO_failsAtBureau_86 st_MO_failsAtBureau_214 hM nd hn hc hT bh6 (by omega) (by decide) (by decide) (fun w9 y9 vq9 tw9 => ?_) (fun q7 e7 k7 a7 w7 v7 y6 hq7 hv7 bh7 => ?_)
                · skip
                  refine g_if_eq (pc := 89) (tgt := 94) d_MO_failsAtBureau_89 (by decide) (fun c_89 => ?_) (fun c_89 => ?_)
                  · exact absurd c_89 (by decide)
                  · skip
                    refine g_iconst (pc := 92) (v := 1) d_MO_failsAtBureau_92 (by decide) ?_
                    refine g_zret (pc := 93) d_MO_failsAtBureau_93 rfl (by first | rfl | exact nar_bI _) ?_
                    have er := hr6.trans (Y_row_f (l := RB) (i := 6) (d := 0) y9)
                    have ey := Y_bur_f2 (B := B) hw1 er
                    refine ⟨(w9, (u1 (u1 (u1 (u1 (u1 (u1 N 0 v1) 1 v2) 2 v3) 3 v4) 4 v5) 5 v6), G0), ?_, ?_, ?_⟩
                    · rw [ey]; exact ⟨vq9, tw9, fun _ _ => rfl, fun z => by cases z⟩
                    · rw [ey]; rfl
                    · rw [ey]; rfl
                · skip
                  have hr7 := hr6.trans ((Y_row_t (l := RB) (i := 6) (d := 0) y6).trans (by rw [← hq7, ← hv7]))
                  refine g_if_eq (pc := 89) (tgt := 94) d_MO_failsAtBureau_89 (by decide) (fun _ => ?_) (fun c => absurd rfl c)
                  have er := hr7
                  have ey := Y_bur_3 (B := B) hw1 er
                  obtain ⟨N7, hN7e⟩ : ∃ z, z = (u1 (u1 (u1 (u1 (u1 (u1 (u1 N 0 v1) 1 v2) 2 v3) 3 v4) 4 v5) 5 v6) 6 v7) := ⟨_, rfl⟩
                  obtain ⟨V7, hV7e⟩ : ∃ z, z = (u1 (u1 (u1 (u1 (u1 (u1 (u1 V 0 v1) 1 v2) 2 v3) 3 v4) 4 v5) 5 v6) 6 v7) := ⟨_, rfl⟩
                  have hN7 : ∀ j, j < 7 → N7 j = V7 j := by rw [hN7e, hV7e]; exact u7
                  rw [← hV7e] at ey
                  rw [← hN7e]
                  refine g_iconst (pc := 94) (v := 0) d_MO_failsAtBureau_94 (by decide) ?_
                  refine g_istore_n (pc := 95) (lv' := [(1, .int (nI 0)), (0, .ref m)]) d_MO_failsAtBureau_95 rfl (by decide) rfl ?_
                  refine g_h (h' := wL h ((m, (rM c0 cm e7 k7 a7 w7 q7.2.2.1 q7.2.2.2)) :: (st, (SBn N7 G0 0)) :: (mi, Ti) :: (nu, N7) :: (co, K) :: (wd, wdR) :: R)) (by rw [SBn_0]) ?_
                  have lp9 : ∀ (d i : Nat), i ≤ 7 → 7 - i < d → G E m_MO_failsAtBureau 96 [(1, .int (nI i)), (0, .ref m)] [] (wL h ((m, (rM c0 cm e7 k7 a7 w7 q7.2.2.1 q7.2.2.2)) :: (st, (SBn N7 G0 i)) :: (mi, Ti) :: (nu, N7) :: (co, K) :: (wd, wdR) :: R)) 0 0 (fun v1 h9 => ∃ z : Int32 × (Nat → Int32) × (Nat → Int32), (VQ (Y_bur T n q V B).2.1 z.1 ∧ TW T n (Y_bur T n q V B).2.1.1 ∧ (∀ j, 140 ≤ j → z.2.2 j = G0 j) ∧ ((Y_bur T n q V B).1 = true → z.2.2 = enc 0 0 (Y_bur T n q V B).2.2.2 G0)) ∧ v1 = some (.int (bI (!(Y_bur T n q V B).1))) ∧ h9 = wL h ((m, (rQ c0 cm (Y_bur T n q V B).2.1 z.1)) :: (st, z.2.2) :: (mi, Ti) :: (nu, z.2.1) :: (co, K) :: (wd, wdR) :: R)) noX := by
                    intro d
                    induction d with
                    | zero => intros; omega
                    | succ d ih =>
                      intro i hi hd
                      refine g_iload_n (pc := 96) d_MO_failsAtBureau_96 rfl 0 rfl ?_
                      refine g_bipush (pc := 97) (v := 6) d_MO_failsAtBureau_97 (by decide) ?_
                      refine g_icmp_gt (pc := 99) (tgt := 120) d_MO_failsAtBureau_99 (by decide) (fun c_99 => ?_) (fun c_99 => ?_)
                      · skip
                        have e9 : i = 7 := by have := (nI_ltI (a := 6) (by omega) (by omega)).mp c_99; omega
                        rw [e9, SBn_enc (c := B.1) (x := B.2) hN7 hZ]
                        refine g_aload_n (pc := 120) d_MO_failsAtBureau_120 rfl 1 rfl ?_
                        refine g_cVx (pc := 121) (ci := 7) (As := []) d_MO_failsAtBureau_121 rfl mv_MO_failsAtNext st_MO_failsAtBureau_218 rfl rfl (by decide) rfl rfl (Nat.le_of_ble_eq_true rfl) k_m (ce_MO_failsAtNext (q := q7) hM nd hn hc hT bh7) (fun z hz => ?_)
                        refine g_zret (pc := 124) d_MO_failsAtBureau_124 rfl (by first | rfl | exact nar_bI _) ?_
                        refine ⟨(z, N7, enc 0 0 (M_beginB B.1 V7, B.2) G0), ?_, ?_, ?_⟩
                        · rw [ey]
                          refine ⟨hz.1, hz.2, fun j hj => enc_out (by omega) (by omega) hj, fun y => ?_⟩
                          show _ = enc 0 0 (if (Y_semi T n q7).1 = true then (M_beginB B.1 V7, B.2) else B) G0
                          rw [if_pos y]
                        · rw [ey]
                        · rw [ey]
                      · skip
                        have e9 : i < 7 := by have := mt (nI_ltI (a := 6) (b := i) (by omega) (by omega)).mpr c_99; omega
                        refine g_aload_n (pc := 102) d_MO_failsAtBureau_102 rfl 1 rfl ?_
                        refine g_getR (pc := 103) (ci := 7) (f := 0) (b := st) rfl r_m_0 d_MO_failsAtBureau_103 fl_MO_7 (by decide) k_m ?_
                        refine g_iload_n (pc := 106) d_MO_failsAtBureau_106 rfl 0 rfl ?_
                        refine g_aload_n (pc := 107) d_MO_failsAtBureau_107 rfl 1 rfl ?_
                        refine g_getR (pc := 108) (ci := 7) (f := 12) (b := nu) rfl r_m_12 d_MO_failsAtBureau_108 fl_MO_25 (by decide) k_m ?_
                        refine g_iload_n (pc := 111) d_MO_failsAtBureau_111 rfl 0 rfl ?_
                        refine g_lia3 (pc := 112) (j := i) d_MO_failsAtBureau_112 k_nu l_nu (by first | assumption | omega | decide) (by decide) nd ?_
                        refine g_liE1 (pc := 113) (j := i) (hg := SBn_S N7 G0 i) d_MO_failsAtBureau_113 k_st l_st (by first | assumption | omega | decide) (by decide) nd ?_
                        obtain ⟨x_1, hx_1⟩ : ∃ y : Int32, y = (nI i) + 1 := ⟨_, rfl⟩
                        refine g_iinc (pc := 114) (w := 0) (v := x_1) (lv' := [(1, .int x_1), (0, .ref m)]) d_MO_failsAtBureau_114 rfl (by rw [hx_1]; rfl) (by decide) rfl ?_
                        refine g_goto (pc := 117) (tgt := 96) d_MO_failsAtBureau_117 (by decide) ?_
                        have e8 : x_1 = nI (i + 1) := by rw [hx_1]; exact nI_1 _
                        clear hx_1
                        subst e8
                        exact ih (i + 1) (by omega) (by omega)
                  exact lp9 8 0 (by omega) (by omega)
  · skip
    have hw1 : ¬ Y_isw T q.1 1 = true := fun z => c_4 (by rw [(Z_word_iff (w0 := 0) (by omega)).mpr z]; rfl)
    refine g_aload_n (pc := 7) d_MO_failsAtBureau_7 rfl 0 rfl ?_
    refine g_iconst (pc := 8) (v := 1) d_MO_failsAtBureau_8 (by decide) ?_
    refine g_cV1 (pc := 9) (ci := 7) (As := [.int _]) d_MO_failsAtBureau_9 rfl mv_MO_fails st_MO_failsAtBureau_202 rfl rfl (by decide) rfl rfl (Nat.le_of_ble_eq_true rfl) k_m (cm_MO_fails hM nd hn hc hT) ?_
    refine g_zret (pc := 12) d_MO_failsAtBureau_12 rfl (by first | rfl | exact nar_bI _) ?_
    have ey := Y_bur_f1 (n := n) (V := V) (B := B) hw1
    refine ⟨(w, N, G0), ?_, ?_, ?_⟩
    · rw [ey]; exact ⟨hv, hq, fun _ _ => rfl, fun z => by cases z⟩
    · rw [ey]; rfl
    · rw [ey]
