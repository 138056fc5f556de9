/-! THE MODEL'S STATE: the block 0 of its row, as a bureau -/
def enc (nw sc : Nat) (B : Bu) (g : Nat → Int32) : Nat → Int32 := fun q => if q < 12 then B.1 q else if 14 ≤ q ∧ q < 14 + nw then B.2.1 (q - 14) else if 20 ≤ q ∧ q < 20 + 15 * sc then B.2.2 ((q - 20) / 15) ((q - 20) % 15) else g q
def MoOk (h : Hp) (m st : Nat) : Prop := hK h m = 8 ∧ hR h m 0 = some st ∧ hK h st = 20 ∧ hL h st = 1820
section
variable {nw sc i j k : Nat} {B : Bu} {g : Nat → Int32} {v : Int32}
theorem enc_c (hk : k < 12) : enc nw sc B g k = B.1 k := if_pos hk
theorem enc_w (n6 : nw ≤ 6) (hj : j < nw) : enc nw sc B g (14 + j) = B.2.1 j := by
  unfold enc
  rw [if_neg (by omega), if_pos (by omega), Nat.add_sub_cancel_left]
theorem enc_dm (hk : k < 15) : (20 + 15 * i + k - 20) / 15 = i ∧ (20 + 15 * i + k - 20) % 15 = k := by omega
theorem enc_s (n6 : nw ≤ 6) (hi : i < sc) (hk : k < 15) : enc nw sc B g (20 + 15 * i + k) = B.2.2 i k := by
  unfold enc
  rw [if_neg (by omega), if_neg (by omega), if_pos (by omega), (enc_dm hk).1, (enc_dm hk).2]
theorem enc_pc (hk : k < 12) : u1 (enc nw sc B g) k v = enc nw sc (sC B (u1 B.1 k v)) g := by
  funext q
  rw [u1_at]
  unfold enc
  by_cases hq : q = k
  · rw [if_pos hq, if_pos (by omega)]
    show v = u1 B.1 k v q
    rw [u1_at, if_pos hq]
  · rw [if_neg hq]
    by_cases h1 : q < 12
    · rw [if_pos h1, if_pos h1]
      show B.1 q = u1 B.1 k v q
      rw [u1_at, if_neg hq]
    · rw [if_neg h1, if_neg h1]
      rfl
theorem enc_pw (n6 : nw ≤ 6) (hj : j < nw) : u1 (enc nw sc B g) (14 + j) v = enc nw sc (sW B (u1 B.2.1 j v)) g := by
  funext q
  rw [u1_at]
  unfold enc
  by_cases hq : q = 14 + j
  · rw [if_pos hq, if_neg (by omega), if_pos (by omega)]
    show v = u1 B.2.1 j v (q - 14)
    rw [u1_at, if_pos (by omega)]
  · rw [if_neg hq]
    by_cases h1 : q < 12
    · rw [if_pos h1, if_pos h1]; rfl
    · rw [if_neg h1, if_neg h1]
      by_cases h2 : 14 ≤ q ∧ q < 14 + nw
      · rw [if_pos h2, if_pos h2]
        show B.2.1 (q - 14) = u1 B.2.1 j v (q - 14)
        rw [u1_at, if_neg (by omega)]
      · rw [if_neg h2, if_neg h2]; rfl
theorem enc_ps (n6 : nw ≤ 6) (hi : i < sc) (hk : k < 15) : u1 (enc nw sc B g) (20 + 15 * i + k) v = enc nw sc (sS B i (u1 (B.2.2 i) k v)) g := by
  funext q
  rw [u1_at]
  unfold enc
  by_cases hq : q = 20 + 15 * i + k
  · rw [if_pos hq, if_neg (by omega), if_neg (by omega), if_pos (by omega), hq, (enc_dm hk).1, (enc_dm hk).2]
    show v = u1 B.2.2 i (u1 (B.2.2 i) k v) i k
    rw [u1_same, u1_same]
  · rw [if_neg hq]
    by_cases h1 : q < 12
    · rw [if_pos h1, if_pos h1]; rfl
    · rw [if_neg h1, if_neg h1]
      by_cases h2 : 14 ≤ q ∧ q < 14 + nw
      · rw [if_pos h2, if_pos h2]; rfl
      · rw [if_neg h2, if_neg h2]
        by_cases h3 : 20 ≤ q ∧ q < 20 + 15 * sc
        · rw [if_pos h3, if_pos h3]
          show B.2.2 ((q - 20) / 15) ((q - 20) % 15) = u1 B.2.2 i (u1 (B.2.2 i) k v) ((q - 20) / 15) ((q - 20) % 15)
          rw [u1_at]
          by_cases h4 : (q - 20) / 15 = i
          · rw [if_pos h4, u1_ne (by omega), h4]
          · rw [if_neg h4]
        · rw [if_neg h3, if_neg h3]
end
theorem sS_sS (B : Bu) (i : Nat) (s t : Nat → Int32) : sS (sS B i s) i t = sS B i t := Prod.ext rfl (Prod.ext rfl (u1_u1 _ _ _ _))
theorem sS_sC (B : Bu) (i : Nat) (s c : Nat → Int32) : sS (sC B c) i s = sC (sS B i s) c := rfl
theorem sC_sC (B : Bu) (c d : Nat → Int32) : sC (sC B c) d = sC B d := rfl
theorem sS_i (B : Bu) (i : Nat) (s : Nat → Int32) : (sS B i s).2.2 i = s := u1_same _ _ _
theorem sS_1 (B : Bu) (i : Nat) (s : Nat → Int32) : (sS B i s).1 = B.1 := rfl
theorem sS_21 (B : Bu) (i : Nat) (s : Nat → Int32) : (sS B i s).2.1 = B.2.1 := rfl
theorem sC_1 (B : Bu) (c : Nat → Int32) : (sC B c).1 = c := rfl
theorem sC_2 (B : Bu) (c : Nat → Int32) : (sC B c).2 = B.2 := rfl
section
variable {E : En} {M : Mt} {pc : Nat} {lv : List (Nat × Value)} {st0 : List Value} {h : Hp} {k9 n9 : Nat} {P : Option Value → Hp → Prop} {X : String → Hp → Prop} {m st nw sc i j k : Nat} {B : Bu} {c g : Nat → Int32} {v : Int32} {R : List (Nat × (Nat → Int32))}
theorem g_mI (hd : decode (mC M) pc = .ok (.iaload, 1)) (k_st : hK h st = 20) (l_st : hL h st = 1820) (hk : k < 12) (nd : (m :: st :: R.map Prod.fst).Nodup)
    (kk : G E M (pc + 1) lv (.int (B.1 k) :: st0) (wL h ((m, c) :: (st, enc nw sc B g) :: R)) k9 n9 P X) : G E M pc lv (.int (nI k) :: .ref st :: st0) (wL h ((m, c) :: (st, enc nw sc B g) :: R)) k9 n9 P X :=
  g_lia1 hd k_st l_st (by omega) (by decide) nd (by rw [enc_c hk]; exact kk)
theorem g_mIS (hd : decode (mC M) pc = .ok (.iastore, 1)) (k_st : hK h st = 20) (l_st : hL h st = 1820) (hk : k < 12) (nd : (m :: st :: R.map Prod.fst).Nodup)
    (kk : G E M (pc + 1) lv st0 (wL h ((m, c) :: (st, enc nw sc (sC B (u1 B.1 k v)) g) :: R)) k9 n9 P X) : G E M pc lv (.int v :: .int (nI k) :: .ref st :: st0) (wL h ((m, c) :: (st, enc nw sc B g) :: R)) k9 n9 P X :=
  g_lis1 hd k_st l_st (by omega) (by decide) nd (by rw [enc_pc hk]; exact kk)
theorem g_mW (hd : decode (mC M) pc = .ok (.iaload, 1)) (k_st : hK h st = 20) (l_st : hL h st = 1820) (n6 : nw ≤ 6) (hj : j < nw) (nd : (m :: st :: R.map Prod.fst).Nodup)
    (kk : G E M (pc + 1) lv (.int (B.2.1 j) :: st0) (wL h ((m, c) :: (st, enc nw sc B g) :: R)) k9 n9 P X) : G E M pc lv (.int (nI 14 + nI j) :: .ref st :: st0) (wL h ((m, c) :: (st, enc nw sc B g) :: R)) k9 n9 P X :=
  g_top (nI_add 14 j) (g_lia1 hd k_st l_st (by omega) (by decide) nd (by rw [enc_w n6 hj]; exact kk))
theorem g_mS (hd : decode (mC M) pc = .ok (.iaload, 1)) (k_st : hK h st = 20) (l_st : hL h st = 1820) (n6 : nw ≤ 6) (s8 : sc ≤ 8) (hi : i < sc) (hk : k < 15) (nd : (m :: st :: R.map Prod.fst).Nodup)
    (kk : G E M (pc + 1) lv (.int (B.2.2 i k) :: st0) (wL h ((m, c) :: (st, enc nw sc B g) :: R)) k9 n9 P X) : G E M pc lv (.int (nI 20 + nI 15 * nI i + nI k) :: .ref st :: st0) (wL h ((m, c) :: (st, enc nw sc B g) :: R)) k9 n9 P X :=
  g_top (y := nI (20 + 15 * i + k)) (by rw [nI_mul, nI_add, nI_add]) (g_lia1 hd k_st l_st (by omega) (by decide) nd (by rw [enc_s n6 hi hk]; exact kk))
theorem g_mSS (hd : decode (mC M) pc = .ok (.iastore, 1)) (k_st : hK h st = 20) (l_st : hL h st = 1820) (n6 : nw ≤ 6) (s8 : sc ≤ 8) (hi : i < sc) (hk : k < 15) (nd : (m :: st :: R.map Prod.fst).Nodup)
    (kk : G E M (pc + 1) lv st0 (wL h ((m, c) :: (st, enc nw sc (sS B i (u1 (B.2.2 i) k v)) g) :: R)) k9 n9 P X) : G E M pc lv (.int v :: .int (nI 20 + nI 15 * nI i + nI k) :: .ref st :: st0) (wL h ((m, c) :: (st, enc nw sc B g) :: R)) k9 n9 P X :=
  g_top2 (y := nI (20 + 15 * i + k)) (by rw [nI_mul, nI_add, nI_add]) (g_lis1 hd k_st l_st (by omega) (by decide) nd (by rw [enc_ps n6 hi hk]; exact kk))
end
theorem M_tot_congr {c c' w s s' : Nat → Int32} (h0 : c' 0 = c 0) (h1 : c' 1 = c 1) (h2 : s' 1 = s 1) (h3 : s' 2 = s 2) : ∀ n, M_tot c' w s' n = M_tot c w s n
  | 0 => rfl
  | n + 1 => by
    rw [M_tot, M_tot, M_tot_congr h0 h1 h2 h3 n]
    unfold M_exc M_err M_bound
    rw [h0, h1, h2, h3]
theorem i_sub (x y : Int32) : x - y = x + -y := Int32.sub_eq_add_neg x y
theorem i_neg_abs (x : Int32) : (if x < 0 then -x else x) = M_abs x := by
  unfold M_abs
  by_cases h : 0 ≤ x
  · rw [if_pos h, if_neg (Int32.not_lt.mpr h)]
  · rw [if_neg h, if_pos (Int32.not_le.mp h), Int32.zero_sub]
theorem i_pos_neg (x : Int32) : (if x < 0 then 0 else x) = M_pos x := by
  unfold M_pos
  by_cases h : 0 < x
  · rw [if_pos h, if_neg (fun z => absurd (i_lt _ _ |>.mp z) (by have := (i_lt _ _).mp h; omega))]
  · rw [if_neg h]
    by_cases h2 : x < 0
    · rw [if_pos h2]
    · rw [if_neg h2]
      refine Int32.toInt_inj.mp ?_
      have a1 : ¬ 0 < x.toInt := fun z => h ((i_lt _ _).mpr z)
      have a2 : ¬ x.toInt < 0 := fun z => h2 ((i_lt _ _).mpr z)
      show x.toInt = 0
      omega
theorem d_MO_of_0 : decode (mC m_MO_of) 0 = .ok (.aload_n 0, 1) := by decide +kernel
theorem d_MO_of_1 : decode (mC m_MO_of) 1 = .ok (.getfield 7, 3) := by decide +kernel
theorem d_MO_of_4 : decode (mC m_MO_of) 4 = .ok (.bipush 20, 2) := by decide +kernel
theorem d_MO_of_6 : decode (mC m_MO_of) 6 = .ok (.bipush 15, 2) := by decide +kernel
theorem d_MO_of_8 : decode (mC m_MO_of) 8 = .ok (.iload_n 1, 1) := by decide +kernel
theorem d_MO_of_9 : decode (mC m_MO_of) 9 = .ok (.imul, 1) := by decide +kernel
theorem d_MO_of_10 : decode (mC m_MO_of) 10 = .ok (.iadd, 1) := by decide +kernel
theorem d_MO_of_11 : decode (mC m_MO_of) 11 = .ok (.iload_n 2, 1) := by decide +kernel
theorem d_MO_of_12 : decode (mC m_MO_of) 12 = .ok (.iadd, 1) := by decide +kernel
theorem d_MO_of_13 : decode (mC m_MO_of) 13 = .ok (.iaload, 1) := by decide +kernel
theorem d_MO_of_14 : decode (mC m_MO_of) 14 = .ok (.ireturn, 1) := by decide +kernel
theorem d_MO_put_0 : decode (mC m_MO_put) 0 = .ok (.aload_n 0, 1) := by decide +kernel
theorem d_MO_put_1 : decode (mC m_MO_put) 1 = .ok (.getfield 7, 3) := by decide +kernel
theorem d_MO_put_4 : decode (mC m_MO_put) 4 = .ok (.bipush 20, 2) := by decide +kernel
theorem d_MO_put_6 : decode (mC m_MO_put) 6 = .ok (.bipush 15, 2) := by decide +kernel
theorem d_MO_put_8 : decode (mC m_MO_put) 8 = .ok (.iload_n 1, 1) := by decide +kernel
theorem d_MO_put_9 : decode (mC m_MO_put) 9 = .ok (.imul, 1) := by decide +kernel
theorem d_MO_put_10 : decode (mC m_MO_put) 10 = .ok (.iadd, 1) := by decide +kernel
theorem d_MO_put_11 : decode (mC m_MO_put) 11 = .ok (.iload_n 2, 1) := by decide +kernel
theorem d_MO_put_12 : decode (mC m_MO_put) 12 = .ok (.iadd, 1) := by decide +kernel
theorem d_MO_put_13 : decode (mC m_MO_put) 13 = .ok (.iload_n 3, 1) := by decide +kernel
theorem d_MO_put_14 : decode (mC m_MO_put) 14 = .ok (.iastore, 1) := by decide +kernel
theorem d_MO_put_15 : decode (mC m_MO_put) 15 = .ok (.return_, 1) := by decide +kernel
theorem d_MO_addTo_0 : decode (mC m_MO_addTo) 0 = .ok (.aload_n 0, 1) := by decide +kernel
theorem d_MO_addTo_1 : decode (mC m_MO_addTo) 1 = .ok (.getfield 7, 3) := by decide +kernel
theorem d_MO_addTo_4 : decode (mC m_MO_addTo) 4 = .ok (.bipush 20, 2) := by decide +kernel
theorem d_MO_addTo_6 : decode (mC m_MO_addTo) 6 = .ok (.bipush 15, 2) := by decide +kernel
theorem d_MO_addTo_8 : decode (mC m_MO_addTo) 8 = .ok (.iload_n 1, 1) := by decide +kernel
theorem d_MO_addTo_9 : decode (mC m_MO_addTo) 9 = .ok (.imul, 1) := by decide +kernel
theorem d_MO_addTo_10 : decode (mC m_MO_addTo) 10 = .ok (.iadd, 1) := by decide +kernel
theorem d_MO_addTo_11 : decode (mC m_MO_addTo) 11 = .ok (.iload_n 2, 1) := by decide +kernel
theorem d_MO_addTo_12 : decode (mC m_MO_addTo) 12 = .ok (.iadd, 1) := by decide +kernel
theorem d_MO_addTo_13 : decode (mC m_MO_addTo) 13 = .ok (.dup2, 1) := by decide +kernel
theorem d_MO_addTo_14 : decode (mC m_MO_addTo) 14 = .ok (.iaload, 1) := by decide +kernel
theorem d_MO_addTo_15 : decode (mC m_MO_addTo) 15 = .ok (.iload_n 3, 1) := by decide +kernel
theorem d_MO_addTo_16 : decode (mC m_MO_addTo) 16 = .ok (.iadd, 1) := by decide +kernel
theorem d_MO_addTo_17 : decode (mC m_MO_addTo) 17 = .ok (.iastore, 1) := by decide +kernel
theorem d_MO_addTo_18 : decode (mC m_MO_addTo) 18 = .ok (.return_, 1) := by decide +kernel
theorem d_MO_isOpenShop_0 : decode (mC m_MO_isOpenShop) 0 = .ok (.aload_n 0, 1) := by decide +kernel
theorem d_MO_isOpenShop_1 : decode (mC m_MO_isOpenShop) 1 = .ok (.iload_n 1, 1) := by decide +kernel
theorem d_MO_isOpenShop_2 : decode (mC m_MO_isOpenShop) 2 = .ok (.bipush 12, 2) := by decide +kernel
theorem d_MO_isOpenShop_4 : decode (mC m_MO_isOpenShop) 4 = .ok (.invokevirtual 69, 3) := by decide +kernel
theorem d_MO_isOpenShop_7 : decode (mC m_MO_isOpenShop) 7 = .ok (.iconst 1, 1) := by decide +kernel
theorem d_MO_isOpenShop_8 : decode (mC m_MO_isOpenShop) 8 = .ok (.if_icmp .ne 7, 3) := by decide +kernel
theorem d_MO_isOpenShop_11 : decode (mC m_MO_isOpenShop) 11 = .ok (.iconst 1, 1) := by decide +kernel
theorem d_MO_isOpenShop_12 : decode (mC m_MO_isOpenShop) 12 = .ok (.goto 4, 3) := by decide +kernel
theorem d_MO_isOpenShop_15 : decode (mC m_MO_isOpenShop) 15 = .ok (.iconst 0, 1) := by decide +kernel
theorem d_MO_isOpenShop_16 : decode (mC m_MO_isOpenShop) 16 = .ok (.ireturn, 1) := by decide +kernel
theorem d_MO_errorFor_0 : decode (mC m_MO_errorFor) 0 = .ok (.aload_n 0, 1) := by decide +kernel
theorem d_MO_errorFor_1 : decode (mC m_MO_errorFor) 1 = .ok (.iload_n 1, 1) := by decide +kernel
theorem d_MO_errorFor_2 : decode (mC m_MO_errorFor) 2 = .ok (.iconst 1, 1) := by decide +kernel
theorem d_MO_errorFor_3 : decode (mC m_MO_errorFor) 3 = .ok (.invokevirtual 69, 3) := by decide +kernel
theorem d_MO_errorFor_6 : decode (mC m_MO_errorFor) 6 = .ok (.iload_n 2, 1) := by decide +kernel
theorem d_MO_errorFor_7 : decode (mC m_MO_errorFor) 7 = .ok (.aload_n 0, 1) := by decide +kernel
theorem d_MO_errorFor_8 : decode (mC m_MO_errorFor) 8 = .ok (.iload_n 1, 1) := by decide +kernel
theorem d_MO_errorFor_9 : decode (mC m_MO_errorFor) 9 = .ok (.iconst 2, 1) := by decide +kernel
theorem d_MO_errorFor_10 : decode (mC m_MO_errorFor) 10 = .ok (.invokevirtual 69, 3) := by decide +kernel
theorem d_MO_errorFor_13 : decode (mC m_MO_errorFor) 13 = .ok (.imul, 1) := by decide +kernel
theorem d_MO_errorFor_14 : decode (mC m_MO_errorFor) 14 = .ok (.sipush 1000, 3) := by decide +kernel
theorem d_MO_errorFor_17 : decode (mC m_MO_errorFor) 17 = .ok (.idiv, 1) := by decide +kernel
theorem d_MO_errorFor_18 : decode (mC m_MO_errorFor) 18 = .ok (.iadd, 1) := by decide +kernel
theorem d_MO_errorFor_19 : decode (mC m_MO_errorFor) 19 = .ok (.ireturn, 1) := by decide +kernel
theorem d_MO_boundFor_0 : decode (mC m_MO_boundFor) 0 = .ok (.aload_n 0, 1) := by decide +kernel
theorem d_MO_boundFor_1 : decode (mC m_MO_boundFor) 1 = .ok (.getfield 7, 3) := by decide +kernel
theorem d_MO_boundFor_4 : decode (mC m_MO_boundFor) 4 = .ok (.iconst 0, 1) := by decide +kernel
theorem d_MO_boundFor_5 : decode (mC m_MO_boundFor) 5 = .ok (.iaload, 1) := by decide +kernel
theorem d_MO_boundFor_6 : decode (mC m_MO_boundFor) 6 = .ok (.iload_n 1, 1) := by decide +kernel
theorem d_MO_boundFor_7 : decode (mC m_MO_boundFor) 7 = .ok (.aload_n 0, 1) := by decide +kernel
theorem d_MO_boundFor_8 : decode (mC m_MO_boundFor) 8 = .ok (.getfield 7, 3) := by decide +kernel
theorem d_MO_boundFor_11 : decode (mC m_MO_boundFor) 11 = .ok (.iconst 1, 1) := by decide +kernel
theorem d_MO_boundFor_12 : decode (mC m_MO_boundFor) 12 = .ok (.iaload, 1) := by decide +kernel
theorem d_MO_boundFor_13 : decode (mC m_MO_boundFor) 13 = .ok (.imul, 1) := by decide +kernel
theorem d_MO_boundFor_14 : decode (mC m_MO_boundFor) 14 = .ok (.sipush 1000, 3) := by decide +kernel
theorem d_MO_boundFor_17 : decode (mC m_MO_boundFor) 17 = .ok (.idiv, 1) := by decide +kernel
theorem d_MO_boundFor_18 : decode (mC m_MO_boundFor) 18 = .ok (.iadd, 1) := by decide +kernel
theorem d_MO_boundFor_19 : decode (mC m_MO_boundFor) 19 = .ok (.ireturn, 1) := by decide +kernel
theorem d_MO_excessFor_0 : decode (mC m_MO_excessFor) 0 = .ok (.aload_n 0, 1) := by decide +kernel
theorem d_MO_excessFor_1 : decode (mC m_MO_excessFor) 1 = .ok (.iload_n 1, 1) := by decide +kernel
theorem d_MO_excessFor_2 : decode (mC m_MO_excessFor) 2 = .ok (.iload_n 2, 1) := by decide +kernel
theorem d_MO_excessFor_3 : decode (mC m_MO_excessFor) 3 = .ok (.invokevirtual 73, 3) := by decide +kernel
theorem d_MO_excessFor_6 : decode (mC m_MO_excessFor) 6 = .ok (.istore_n 3, 1) := by decide +kernel
theorem d_MO_excessFor_7 : decode (mC m_MO_excessFor) 7 = .ok (.iload_n 3, 1) := by decide +kernel
theorem d_MO_excessFor_8 : decode (mC m_MO_excessFor) 8 = .ok (.ifCond .ge 8, 3) := by decide +kernel
theorem d_MO_excessFor_11 : decode (mC m_MO_excessFor) 11 = .ok (.iload_n 3, 1) := by decide +kernel
theorem d_MO_excessFor_12 : decode (mC m_MO_excessFor) 12 = .ok (.ineg, 1) := by decide +kernel
theorem d_MO_excessFor_13 : decode (mC m_MO_excessFor) 13 = .ok (.goto 4, 3) := by decide +kernel
theorem d_MO_excessFor_16 : decode (mC m_MO_excessFor) 16 = .ok (.iload_n 3, 1) := by decide +kernel
theorem d_MO_excessFor_17 : decode (mC m_MO_excessFor) 17 = .ok (.aload_n 0, 1) := by decide +kernel
theorem d_MO_excessFor_18 : decode (mC m_MO_excessFor) 18 = .ok (.iload_n 2, 1) := by decide +kernel
theorem d_MO_excessFor_19 : decode (mC m_MO_excessFor) 19 = .ok (.invokevirtual 76, 3) := by decide +kernel
theorem d_MO_excessFor_22 : decode (mC m_MO_excessFor) 22 = .ok (.isub, 1) := by decide +kernel
theorem d_MO_excessFor_23 : decode (mC m_MO_excessFor) 23 = .ok (.istore 4, 2) := by decide +kernel
theorem d_MO_excessFor_25 : decode (mC m_MO_excessFor) 25 = .ok (.iload 4, 2) := by decide +kernel
theorem d_MO_excessFor_27 : decode (mC m_MO_excessFor) 27 = .ok (.ifCond .ge 7, 3) := by decide +kernel
theorem d_MO_excessFor_30 : decode (mC m_MO_excessFor) 30 = .ok (.iconst 0, 1) := by decide +kernel
theorem d_MO_excessFor_31 : decode (mC m_MO_excessFor) 31 = .ok (.goto 5, 3) := by decide +kernel
theorem d_MO_excessFor_34 : decode (mC m_MO_excessFor) 34 = .ok (.iload 4, 2) := by decide +kernel
theorem d_MO_excessFor_36 : decode (mC m_MO_excessFor) 36 = .ok (.ireturn, 1) := by decide +kernel
theorem d_MO_totalOf_0 : decode (mC m_MO_totalOf) 0 = .ok (.iconst 0, 1) := by decide +kernel
theorem d_MO_totalOf_1 : decode (mC m_MO_totalOf) 1 = .ok (.istore_n 2, 1) := by decide +kernel
theorem d_MO_totalOf_2 : decode (mC m_MO_totalOf) 2 = .ok (.iconst 0, 1) := by decide +kernel
theorem d_MO_totalOf_3 : decode (mC m_MO_totalOf) 3 = .ok (.istore_n 3, 1) := by decide +kernel
theorem d_MO_totalOf_4 : decode (mC m_MO_totalOf) 4 = .ok (.iload_n 3, 1) := by decide +kernel
theorem d_MO_totalOf_5 : decode (mC m_MO_totalOf) 5 = .ok (.aload_n 0, 1) := by decide +kernel
theorem d_MO_totalOf_6 : decode (mC m_MO_totalOf) 6 = .ok (.getfield 7, 3) := by decide +kernel
theorem d_MO_totalOf_9 : decode (mC m_MO_totalOf) 9 = .ok (.bipush 7, 2) := by decide +kernel
theorem d_MO_totalOf_11 : decode (mC m_MO_totalOf) 11 = .ok (.iaload, 1) := by decide +kernel
theorem d_MO_totalOf_12 : decode (mC m_MO_totalOf) 12 = .ok (.if_icmp .ge 26, 3) := by decide +kernel
theorem d_MO_totalOf_15 : decode (mC m_MO_totalOf) 15 = .ok (.iload_n 2, 1) := by decide +kernel
theorem d_MO_totalOf_16 : decode (mC m_MO_totalOf) 16 = .ok (.aload_n 0, 1) := by decide +kernel
theorem d_MO_totalOf_17 : decode (mC m_MO_totalOf) 17 = .ok (.iload_n 1, 1) := by decide +kernel
theorem d_MO_totalOf_18 : decode (mC m_MO_totalOf) 18 = .ok (.aload_n 0, 1) := by decide +kernel
theorem d_MO_totalOf_19 : decode (mC m_MO_totalOf) 19 = .ok (.getfield 7, 3) := by decide +kernel
theorem d_MO_totalOf_22 : decode (mC m_MO_totalOf) 22 = .ok (.bipush 14, 2) := by decide +kernel
theorem d_MO_totalOf_24 : decode (mC m_MO_totalOf) 24 = .ok (.iload_n 3, 1) := by decide +kernel
theorem d_MO_totalOf_25 : decode (mC m_MO_totalOf) 25 = .ok (.iadd, 1) := by decide +kernel
theorem d_MO_totalOf_26 : decode (mC m_MO_totalOf) 26 = .ok (.iaload, 1) := by decide +kernel
theorem d_MO_totalOf_27 : decode (mC m_MO_totalOf) 27 = .ok (.invokevirtual 80, 3) := by decide +kernel
theorem d_MO_totalOf_30 : decode (mC m_MO_totalOf) 30 = .ok (.iadd, 1) := by decide +kernel
theorem d_MO_totalOf_31 : decode (mC m_MO_totalOf) 31 = .ok (.istore_n 2, 1) := by decide +kernel
theorem d_MO_totalOf_32 : decode (mC m_MO_totalOf) 32 = .ok (.iinc 3 1, 3) := by decide +kernel
theorem d_MO_totalOf_35 : decode (mC m_MO_totalOf) 35 = .ok (.goto (-31), 3) := by decide +kernel
theorem d_MO_totalOf_38 : decode (mC m_MO_totalOf) 38 = .ok (.iload_n 2, 1) := by decide +kernel
theorem d_MO_totalOf_39 : decode (mC m_MO_totalOf) 39 = .ok (.ireturn, 1) := by decide +kernel
theorem d_MO_isRight_0 : decode (mC m_MO_isRight) 0 = .ok (.aload_n 0, 1) := by decide +kernel
theorem d_MO_isRight_1 : decode (mC m_MO_isRight) 1 = .ok (.iload_n 1, 1) := by decide +kernel
theorem d_MO_isRight_2 : decode (mC m_MO_isRight) 2 = .ok (.invokevirtual 83, 3) := by decide +kernel
theorem d_MO_isRight_5 : decode (mC m_MO_isRight) 5 = .ok (.ifCond .ne 7, 3) := by decide +kernel
theorem d_MO_isRight_8 : decode (mC m_MO_isRight) 8 = .ok (.iconst 1, 1) := by decide +kernel
theorem d_MO_isRight_9 : decode (mC m_MO_isRight) 9 = .ok (.goto 4, 3) := by decide +kernel
theorem d_MO_isRight_12 : decode (mC m_MO_isRight) 12 = .ok (.iconst 0, 1) := by decide +kernel
theorem d_MO_isRight_13 : decode (mC m_MO_isRight) 13 = .ok (.ireturn, 1) := by decide +kernel
theorem d_MO_ouncesOf_0 : decode (mC m_MO_ouncesOf) 0 = .ok (.aload_n 0, 1) := by decide +kernel
theorem d_MO_ouncesOf_1 : decode (mC m_MO_ouncesOf) 1 = .ok (.iload_n 1, 1) := by decide +kernel
theorem d_MO_ouncesOf_2 : decode (mC m_MO_ouncesOf) 2 = .ok (.invokevirtual 83, 3) := by decide +kernel
theorem d_MO_ouncesOf_5 : decode (mC m_MO_ouncesOf) 5 = .ok (.bipush 27, 2) := by decide +kernel
theorem d_MO_ouncesOf_7 : decode (mC m_MO_ouncesOf) 7 = .ok (.iadd, 1) := by decide +kernel
theorem d_MO_ouncesOf_8 : decode (mC m_MO_ouncesOf) 8 = .ok (.bipush 28, 2) := by decide +kernel
theorem d_MO_ouncesOf_10 : decode (mC m_MO_ouncesOf) 10 = .ok (.idiv, 1) := by decide +kernel
theorem d_MO_ouncesOf_11 : decode (mC m_MO_ouncesOf) 11 = .ok (.ireturn, 1) := by decide +kernel
theorem d_MO_driftOne_0 : decode (mC m_MO_driftOne) 0 = .ok (.aload_n 0, 1) := by decide +kernel
theorem d_MO_driftOne_1 : decode (mC m_MO_driftOne) 1 = .ok (.iload_n 1, 1) := by decide +kernel
theorem d_MO_driftOne_2 : decode (mC m_MO_driftOne) 2 = .ok (.iconst 1, 1) := by decide +kernel
theorem d_MO_driftOne_3 : decode (mC m_MO_driftOne) 3 = .ok (.invokevirtual 69, 3) := by decide +kernel
theorem d_MO_driftOne_6 : decode (mC m_MO_driftOne) 6 = .ok (.aload_n 0, 1) := by decide +kernel
theorem d_MO_driftOne_7 : decode (mC m_MO_driftOne) 7 = .ok (.iload_n 1, 1) := by decide +kernel
theorem d_MO_driftOne_8 : decode (mC m_MO_driftOne) 8 = .ok (.iconst 3, 1) := by decide +kernel
theorem d_MO_driftOne_9 : decode (mC m_MO_driftOne) 9 = .ok (.invokevirtual 69, 3) := by decide +kernel
theorem d_MO_driftOne_12 : decode (mC m_MO_driftOne) 12 = .ok (.iadd, 1) := by decide +kernel
theorem d_MO_driftOne_13 : decode (mC m_MO_driftOne) 13 = .ok (.istore_n 2, 1) := by decide +kernel
theorem d_MO_driftOne_14 : decode (mC m_MO_driftOne) 14 = .ok (.iload_n 2, 1) := by decide +kernel
theorem d_MO_driftOne_15 : decode (mC m_MO_driftOne) 15 = .ok (.sipush 500, 3) := by decide +kernel
theorem d_MO_driftOne_18 : decode (mC m_MO_driftOne) 18 = .ok (.if_icmp .le 7, 3) := by decide +kernel
theorem d_MO_driftOne_21 : decode (mC m_MO_driftOne) 21 = .ok (.sipush 500, 3) := by decide +kernel
theorem d_MO_driftOne_24 : decode (mC m_MO_driftOne) 24 = .ok (.istore_n 2, 1) := by decide +kernel
theorem d_MO_driftOne_25 : decode (mC m_MO_driftOne) 25 = .ok (.iload_n 2, 1) := by decide +kernel
theorem d_MO_driftOne_26 : decode (mC m_MO_driftOne) 26 = .ok (.sipush (-500), 3) := by decide +kernel
theorem d_MO_driftOne_29 : decode (mC m_MO_driftOne) 29 = .ok (.if_icmp .ge 7, 3) := by decide +kernel
theorem d_MO_driftOne_32 : decode (mC m_MO_driftOne) 32 = .ok (.sipush (-500), 3) := by decide +kernel
theorem d_MO_driftOne_35 : decode (mC m_MO_driftOne) 35 = .ok (.istore_n 2, 1) := by decide +kernel
theorem d_MO_driftOne_36 : decode (mC m_MO_driftOne) 36 = .ok (.aload_n 0, 1) := by decide +kernel
theorem d_MO_driftOne_37 : decode (mC m_MO_driftOne) 37 = .ok (.iload_n 1, 1) := by decide +kernel
theorem d_MO_driftOne_38 : decode (mC m_MO_driftOne) 38 = .ok (.iconst 1, 1) := by decide +kernel
theorem d_MO_driftOne_39 : decode (mC m_MO_driftOne) 39 = .ok (.iload_n 2, 1) := by decide +kernel
theorem d_MO_driftOne_40 : decode (mC m_MO_driftOne) 40 = .ok (.invokevirtual 65, 3) := by decide +kernel
theorem d_MO_driftOne_43 : decode (mC m_MO_driftOne) 43 = .ok (.return_, 1) := by decide +kernel
theorem d_MO_isValid_0 : decode (mC m_MO_isValid) 0 = .ok (.aload_n 0, 1) := by decide +kernel
theorem d_MO_isValid_1 : decode (mC m_MO_isValid) 1 = .ok (.iload_n 1, 1) := by decide +kernel
theorem d_MO_isValid_2 : decode (mC m_MO_isValid) 2 = .ok (.bipush 11, 2) := by decide +kernel
theorem d_MO_isValid_4 : decode (mC m_MO_isValid) 4 = .ok (.invokevirtual 69, 3) := by decide +kernel
theorem d_MO_isValid_7 : decode (mC m_MO_isValid) 7 = .ok (.aload_n 0, 1) := by decide +kernel
theorem d_MO_isValid_8 : decode (mC m_MO_isValid) 8 = .ok (.getfield 7, 3) := by decide +kernel
theorem d_MO_isValid_11 : decode (mC m_MO_isValid) 11 = .ok (.bipush 9, 2) := by decide +kernel
theorem d_MO_isValid_13 : decode (mC m_MO_isValid) 13 = .ok (.iaload, 1) := by decide +kernel
theorem d_MO_isValid_14 : decode (mC m_MO_isValid) 14 = .ok (.if_icmp .lt 7, 3) := by decide +kernel
theorem d_MO_isValid_17 : decode (mC m_MO_isValid) 17 = .ok (.iconst 1, 1) := by decide +kernel
theorem d_MO_isValid_18 : decode (mC m_MO_isValid) 18 = .ok (.goto 4, 3) := by decide +kernel
theorem d_MO_isValid_21 : decode (mC m_MO_isValid) 21 = .ok (.iconst 0, 1) := by decide +kernel
theorem d_MO_isValid_22 : decode (mC m_MO_isValid) 22 = .ok (.ireturn, 1) := by decide +kernel
theorem d_MO_usesOn_0 : decode (mC m_MO_usesOn) 0 = .ok (.aload_n 0, 1) := by decide +kernel
theorem d_MO_usesOn_1 : decode (mC m_MO_usesOn) 1 = .ok (.iload_n 1, 1) := by decide +kernel
theorem d_MO_usesOn_2 : decode (mC m_MO_usesOn) 2 = .ok (.bipush 10, 2) := by decide +kernel
theorem d_MO_usesOn_4 : decode (mC m_MO_usesOn) 4 = .ok (.invokevirtual 69, 3) := by decide +kernel
theorem d_MO_usesOn_7 : decode (mC m_MO_usesOn) 7 = .ok (.iconst (-1), 1) := by decide +kernel
theorem d_MO_usesOn_8 : decode (mC m_MO_usesOn) 8 = .ok (.if_icmp .eq 22, 3) := by decide +kernel
theorem d_MO_usesOn_11 : decode (mC m_MO_usesOn) 11 = .ok (.iload_n 2, 1) := by decide +kernel
theorem d_MO_usesOn_12 : decode (mC m_MO_usesOn) 12 = .ok (.aload_n 0, 1) := by decide +kernel
theorem d_MO_usesOn_13 : decode (mC m_MO_usesOn) 13 = .ok (.iload_n 1, 1) := by decide +kernel
theorem d_MO_usesOn_14 : decode (mC m_MO_usesOn) 14 = .ok (.bipush 10, 2) := by decide +kernel
theorem d_MO_usesOn_16 : decode (mC m_MO_usesOn) 16 = .ok (.invokevirtual 69, 3) := by decide +kernel
theorem d_MO_usesOn_19 : decode (mC m_MO_usesOn) 19 = .ok (.isub, 1) := by decide +kernel
theorem d_MO_usesOn_20 : decode (mC m_MO_usesOn) 20 = .ok (.aload_n 0, 1) := by decide +kernel
theorem d_MO_usesOn_21 : decode (mC m_MO_usesOn) 21 = .ok (.iload_n 1, 1) := by decide +kernel
theorem d_MO_usesOn_22 : decode (mC m_MO_usesOn) 22 = .ok (.bipush 7, 2) := by decide +kernel
theorem d_MO_usesOn_24 : decode (mC m_MO_usesOn) 24 = .ok (.invokevirtual 69, 3) := by decide +kernel
theorem d_MO_usesOn_27 : decode (mC m_MO_usesOn) 27 = .ok (.if_icmp .le 7, 3) := by decide +kernel
theorem d_MO_usesOn_30 : decode (mC m_MO_usesOn) 30 = .ok (.iconst 1, 1) := by decide +kernel
theorem d_MO_usesOn_31 : decode (mC m_MO_usesOn) 31 = .ok (.goto 4, 3) := by decide +kernel
theorem d_MO_usesOn_34 : decode (mC m_MO_usesOn) 34 = .ok (.iconst 0, 1) := by decide +kernel
theorem d_MO_usesOn_35 : decode (mC m_MO_usesOn) 35 = .ok (.ireturn, 1) := by decide +kernel
theorem d_MO_falseGrams_0 : decode (mC m_MO_falseGrams) 0 = .ok (.aload_n 0, 1) := by decide +kernel
theorem d_MO_falseGrams_1 : decode (mC m_MO_falseGrams) 1 = .ok (.iload_n 1, 1) := by decide +kernel
theorem d_MO_falseGrams_2 : decode (mC m_MO_falseGrams) 2 = .ok (.aload_n 0, 1) := by decide +kernel
theorem d_MO_falseGrams_3 : decode (mC m_MO_falseGrams) 3 = .ok (.iload_n 1, 1) := by decide +kernel
theorem d_MO_falseGrams_4 : decode (mC m_MO_falseGrams) 4 = .ok (.iconst 4, 1) := by decide +kernel
theorem d_MO_falseGrams_5 : decode (mC m_MO_falseGrams) 5 = .ok (.invokevirtual 69, 3) := by decide +kernel
theorem d_MO_falseGrams_8 : decode (mC m_MO_falseGrams) 8 = .ok (.invokevirtual 73, 3) := by decide +kernel
theorem d_MO_falseGrams_11 : decode (mC m_MO_falseGrams) 11 = .ok (.istore_n 2, 1) := by decide +kernel
theorem d_MO_falseGrams_12 : decode (mC m_MO_falseGrams) 12 = .ok (.aload_n 0, 1) := by decide +kernel
theorem d_MO_falseGrams_13 : decode (mC m_MO_falseGrams) 13 = .ok (.iload_n 1, 1) := by decide +kernel
theorem d_MO_falseGrams_14 : decode (mC m_MO_falseGrams) 14 = .ok (.aload_n 0, 1) := by decide +kernel
theorem d_MO_falseGrams_15 : decode (mC m_MO_falseGrams) 15 = .ok (.getfield 7, 3) := by decide +kernel
theorem d_MO_falseGrams_18 : decode (mC m_MO_falseGrams) 18 = .ok (.bipush 9, 2) := by decide +kernel
theorem d_MO_falseGrams_20 : decode (mC m_MO_falseGrams) 20 = .ok (.iaload, 1) := by decide +kernel
theorem d_MO_falseGrams_21 : decode (mC m_MO_falseGrams) 21 = .ok (.invokevirtual 86, 3) := by decide +kernel
theorem d_MO_falseGrams_24 : decode (mC m_MO_falseGrams) 24 = .ok (.ifCond .eq 15, 3) := by decide +kernel
theorem d_MO_falseGrams_27 : decode (mC m_MO_falseGrams) 27 = .ok (.iload_n 2, 1) := by decide +kernel
theorem d_MO_falseGrams_28 : decode (mC m_MO_falseGrams) 28 = .ok (.aload_n 0, 1) := by decide +kernel
theorem d_MO_falseGrams_29 : decode (mC m_MO_falseGrams) 29 = .ok (.iload_n 1, 1) := by decide +kernel
theorem d_MO_falseGrams_30 : decode (mC m_MO_falseGrams) 30 = .ok (.bipush 6, 2) := by decide +kernel
theorem d_MO_falseGrams_32 : decode (mC m_MO_falseGrams) 32 = .ok (.invokevirtual 69, 3) := by decide +kernel
theorem d_MO_falseGrams_35 : decode (mC m_MO_falseGrams) 35 = .ok (.iadd, 1) := by decide +kernel
theorem d_MO_falseGrams_36 : decode (mC m_MO_falseGrams) 36 = .ok (.goto 4, 3) := by decide +kernel
theorem d_MO_falseGrams_39 : decode (mC m_MO_falseGrams) 39 = .ok (.iload_n 2, 1) := by decide +kernel
theorem d_MO_falseGrams_40 : decode (mC m_MO_falseGrams) 40 = .ok (.ireturn, 1) := by decide +kernel
theorem d_MO_gainNow_0 : decode (mC m_MO_gainNow) 0 = .ok (.aload_n 0, 1) := by decide +kernel
theorem d_MO_gainNow_1 : decode (mC m_MO_gainNow) 1 = .ok (.iload_n 1, 1) := by decide +kernel
theorem d_MO_gainNow_2 : decode (mC m_MO_gainNow) 2 = .ok (.iconst 5, 1) := by decide +kernel
theorem d_MO_gainNow_3 : decode (mC m_MO_gainNow) 3 = .ok (.invokevirtual 69, 3) := by decide +kernel
theorem d_MO_gainNow_6 : decode (mC m_MO_gainNow) 6 = .ok (.aload_n 0, 1) := by decide +kernel
theorem d_MO_gainNow_7 : decode (mC m_MO_gainNow) 7 = .ok (.iload_n 1, 1) := by decide +kernel
theorem d_MO_gainNow_8 : decode (mC m_MO_gainNow) 8 = .ok (.invokevirtual 90, 3) := by decide +kernel
theorem d_MO_gainNow_11 : decode (mC m_MO_gainNow) 11 = .ok (.imul, 1) := by decide +kernel
theorem d_MO_gainNow_12 : decode (mC m_MO_gainNow) 12 = .ok (.aload_n 0, 1) := by decide +kernel
theorem d_MO_gainNow_13 : decode (mC m_MO_gainNow) 13 = .ok (.getfield 7, 3) := by decide +kernel
theorem d_MO_gainNow_16 : decode (mC m_MO_gainNow) 16 = .ok (.iconst 4, 1) := by decide +kernel
theorem d_MO_gainNow_17 : decode (mC m_MO_gainNow) 17 = .ok (.iaload, 1) := by decide +kernel
theorem d_MO_gainNow_18 : decode (mC m_MO_gainNow) 18 = .ok (.imul, 1) := by decide +kernel
theorem d_MO_gainNow_19 : decode (mC m_MO_gainNow) 19 = .ok (.sipush 1000, 3) := by decide +kernel
theorem d_MO_gainNow_22 : decode (mC m_MO_gainNow) 22 = .ok (.idiv, 1) := by decide +kernel
theorem d_MO_gainNow_23 : decode (mC m_MO_gainNow) 23 = .ok (.ireturn, 1) := by decide +kernel
theorem d_MO_sell_0 : decode (mC m_MO_sell) 0 = .ok (.aload_n 0, 1) := by decide +kernel
theorem d_MO_sell_1 : decode (mC m_MO_sell) 1 = .ok (.iload_n 1, 1) := by decide +kernel
theorem d_MO_sell_2 : decode (mC m_MO_sell) 2 = .ok (.invokevirtual 93, 3) := by decide +kernel
theorem d_MO_sell_5 : decode (mC m_MO_sell) 5 = .ok (.istore_n 2, 1) := by decide +kernel
theorem d_MO_sell_6 : decode (mC m_MO_sell) 6 = .ok (.aload_n 0, 1) := by decide +kernel
theorem d_MO_sell_7 : decode (mC m_MO_sell) 7 = .ok (.iload_n 1, 1) := by decide +kernel
theorem d_MO_sell_8 : decode (mC m_MO_sell) 8 = .ok (.iconst 0, 1) := by decide +kernel
theorem d_MO_sell_9 : decode (mC m_MO_sell) 9 = .ok (.iload_n 2, 1) := by decide +kernel
theorem d_MO_sell_10 : decode (mC m_MO_sell) 10 = .ok (.invokevirtual 96, 3) := by decide +kernel
theorem d_MO_sell_13 : decode (mC m_MO_sell) 13 = .ok (.aload_n 0, 1) := by decide +kernel
theorem d_MO_sell_14 : decode (mC m_MO_sell) 14 = .ok (.iload_n 1, 1) := by decide +kernel
theorem d_MO_sell_15 : decode (mC m_MO_sell) 15 = .ok (.bipush 14, 2) := by decide +kernel
theorem d_MO_sell_17 : decode (mC m_MO_sell) 17 = .ok (.iload_n 2, 1) := by decide +kernel
theorem d_MO_sell_18 : decode (mC m_MO_sell) 18 = .ok (.invokevirtual 96, 3) := by decide +kernel
theorem d_MO_sell_21 : decode (mC m_MO_sell) 21 = .ok (.aload_n 0, 1) := by decide +kernel
theorem d_MO_sell_22 : decode (mC m_MO_sell) 22 = .ok (.iload_n 1, 1) := by decide +kernel
theorem d_MO_sell_23 : decode (mC m_MO_sell) 23 = .ok (.iconst 5, 1) := by decide +kernel
theorem d_MO_sell_24 : decode (mC m_MO_sell) 24 = .ok (.invokevirtual 69, 3) := by decide +kernel
theorem d_MO_sell_27 : decode (mC m_MO_sell) 27 = .ok (.ifCond .le 28, 3) := by decide +kernel
theorem d_MO_sell_30 : decode (mC m_MO_sell) 30 = .ok (.aload_n 0, 1) := by decide +kernel
theorem d_MO_sell_31 : decode (mC m_MO_sell) 31 = .ok (.iload_n 1, 1) := by decide +kernel
theorem d_MO_sell_32 : decode (mC m_MO_sell) 32 = .ok (.invokevirtual 90, 3) := by decide +kernel
theorem d_MO_sell_35 : decode (mC m_MO_sell) 35 = .ok (.aload_n 0, 1) := by decide +kernel
theorem d_MO_sell_36 : decode (mC m_MO_sell) 36 = .ok (.iload_n 1, 1) := by decide +kernel
theorem d_MO_sell_37 : decode (mC m_MO_sell) 37 = .ok (.iconst 4, 1) := by decide +kernel
theorem d_MO_sell_38 : decode (mC m_MO_sell) 38 = .ok (.invokevirtual 69, 3) := by decide +kernel
theorem d_MO_sell_41 : decode (mC m_MO_sell) 41 = .ok (.bipush 20, 2) := by decide +kernel
theorem d_MO_sell_43 : decode (mC m_MO_sell) 43 = .ok (.idiv, 1) := by decide +kernel
theorem d_MO_sell_44 : decode (mC m_MO_sell) 44 = .ok (.if_icmp .le 11, 3) := by decide +kernel
theorem d_MO_sell_47 : decode (mC m_MO_sell) 47 = .ok (.aload_n 0, 1) := by decide +kernel
theorem d_MO_sell_48 : decode (mC m_MO_sell) 48 = .ok (.iload_n 1, 1) := by decide +kernel
theorem d_MO_sell_49 : decode (mC m_MO_sell) 49 = .ok (.bipush 8, 2) := by decide +kernel
theorem d_MO_sell_51 : decode (mC m_MO_sell) 51 = .ok (.iconst 1, 1) := by decide +kernel
theorem d_MO_sell_52 : decode (mC m_MO_sell) 52 = .ok (.invokevirtual 96, 3) := by decide +kernel
theorem d_MO_sell_55 : decode (mC m_MO_sell) 55 = .ok (.return_, 1) := by decide +kernel
theorem d_MO_failReason_0 : decode (mC m_MO_failReason) 0 = .ok (.aload_n 0, 1) := by decide +kernel
theorem d_MO_failReason_1 : decode (mC m_MO_failReason) 1 = .ok (.iload_n 1, 1) := by decide +kernel
theorem d_MO_failReason_2 : decode (mC m_MO_failReason) 2 = .ok (.invokevirtual 99, 3) := by decide +kernel
theorem d_MO_failReason_5 : decode (mC m_MO_failReason) 5 = .ok (.ifCond .eq 7, 3) := by decide +kernel
theorem d_MO_failReason_8 : decode (mC m_MO_failReason) 8 = .ok (.iconst 0, 1) := by decide +kernel
theorem d_MO_failReason_9 : decode (mC m_MO_failReason) 9 = .ok (.goto 4, 3) := by decide +kernel
theorem d_MO_failReason_12 : decode (mC m_MO_failReason) 12 = .ok (.iconst 1, 1) := by decide +kernel
theorem d_MO_failReason_13 : decode (mC m_MO_failReason) 13 = .ok (.istore_n 2, 1) := by decide +kernel
theorem d_MO_failReason_14 : decode (mC m_MO_failReason) 14 = .ok (.aload_n 0, 1) := by decide +kernel
theorem d_MO_failReason_15 : decode (mC m_MO_failReason) 15 = .ok (.iload_n 1, 1) := by decide +kernel
theorem d_MO_failReason_16 : decode (mC m_MO_failReason) 16 = .ok (.invokevirtual 103, 3) := by decide +kernel
theorem d_MO_failReason_19 : decode (mC m_MO_failReason) 19 = .ok (.ifCond .eq 7, 3) := by decide +kernel
theorem d_MO_failReason_22 : decode (mC m_MO_failReason) 22 = .ok (.iload_n 2, 1) := by decide +kernel
theorem d_MO_failReason_23 : decode (mC m_MO_failReason) 23 = .ok (.goto 6, 3) := by decide +kernel
theorem d_MO_failReason_26 : decode (mC m_MO_failReason) 26 = .ok (.iload_n 2, 1) := by decide +kernel
theorem d_MO_failReason_27 : decode (mC m_MO_failReason) 27 = .ok (.iconst 2, 1) := by decide +kernel
theorem d_MO_failReason_28 : decode (mC m_MO_failReason) 28 = .ok (.iadd, 1) := by decide +kernel
theorem d_MO_failReason_29 : decode (mC m_MO_failReason) 29 = .ok (.ireturn, 1) := by decide +kernel
theorem d_MO_fineFor_0 : decode (mC m_MO_fineFor) 0 = .ok (.aload_n 0, 1) := by decide +kernel
theorem d_MO_fineFor_1 : decode (mC m_MO_fineFor) 1 = .ok (.iload_n 1, 1) := by decide +kernel
theorem d_MO_fineFor_2 : decode (mC m_MO_fineFor) 2 = .ok (.invokevirtual 106, 3) := by decide +kernel
theorem d_MO_fineFor_5 : decode (mC m_MO_fineFor) 5 = .ok (.ifCond .ne 5, 3) := by decide +kernel
theorem d_MO_fineFor_8 : decode (mC m_MO_fineFor) 8 = .ok (.iconst 0, 1) := by decide +kernel
theorem d_MO_fineFor_9 : decode (mC m_MO_fineFor) 9 = .ok (.ireturn, 1) := by decide +kernel
theorem d_MO_fineFor_10 : decode (mC m_MO_fineFor) 10 = .ok (.aload_n 0, 1) := by decide +kernel
theorem d_MO_fineFor_11 : decode (mC m_MO_fineFor) 11 = .ok (.getfield 7, 3) := by decide +kernel
theorem d_MO_fineFor_14 : decode (mC m_MO_fineFor) 14 = .ok (.iconst 2, 1) := by decide +kernel
theorem d_MO_fineFor_15 : decode (mC m_MO_fineFor) 15 = .ok (.iaload, 1) := by decide +kernel
theorem d_MO_fineFor_16 : decode (mC m_MO_fineFor) 16 = .ok (.aload_n 0, 1) := by decide +kernel
theorem d_MO_fineFor_17 : decode (mC m_MO_fineFor) 17 = .ok (.iload_n 1, 1) := by decide +kernel
theorem d_MO_fineFor_18 : decode (mC m_MO_fineFor) 18 = .ok (.invokevirtual 109, 3) := by decide +kernel
theorem d_MO_fineFor_21 : decode (mC m_MO_fineFor) 21 = .ok (.imul, 1) := by decide +kernel
theorem d_MO_fineFor_22 : decode (mC m_MO_fineFor) 22 = .ok (.istore_n 2, 1) := by decide +kernel
theorem d_MO_fineFor_23 : decode (mC m_MO_fineFor) 23 = .ok (.aload_n 0, 1) := by decide +kernel
theorem d_MO_fineFor_24 : decode (mC m_MO_fineFor) 24 = .ok (.iload_n 1, 1) := by decide +kernel
theorem d_MO_fineFor_25 : decode (mC m_MO_fineFor) 25 = .ok (.invokevirtual 103, 3) := by decide +kernel
theorem d_MO_fineFor_28 : decode (mC m_MO_fineFor) 28 = .ok (.ifCond .eq 7, 3) := by decide +kernel
theorem d_MO_fineFor_31 : decode (mC m_MO_fineFor) 31 = .ok (.iload_n 2, 1) := by decide +kernel
theorem d_MO_fineFor_32 : decode (mC m_MO_fineFor) 32 = .ok (.goto 13, 3) := by decide +kernel
theorem d_MO_fineFor_35 : decode (mC m_MO_fineFor) 35 = .ok (.iload_n 2, 1) := by decide +kernel
theorem d_MO_fineFor_36 : decode (mC m_MO_fineFor) 36 = .ok (.iconst 5, 1) := by decide +kernel
theorem d_MO_fineFor_37 : decode (mC m_MO_fineFor) 37 = .ok (.aload_n 0, 1) := by decide +kernel
theorem d_MO_fineFor_38 : decode (mC m_MO_fineFor) 38 = .ok (.getfield 7, 3) := by decide +kernel
theorem d_MO_fineFor_41 : decode (mC m_MO_fineFor) 41 = .ok (.iconst 2, 1) := by decide +kernel
theorem d_MO_fineFor_42 : decode (mC m_MO_fineFor) 42 = .ok (.iaload, 1) := by decide +kernel
theorem d_MO_fineFor_43 : decode (mC m_MO_fineFor) 43 = .ok (.imul, 1) := by decide +kernel
theorem d_MO_fineFor_44 : decode (mC m_MO_fineFor) 44 = .ok (.iadd, 1) := by decide +kernel
theorem d_MO_fineFor_45 : decode (mC m_MO_fineFor) 45 = .ok (.ireturn, 1) := by decide +kernel
theorem d_MO_visitNow_0 : decode (mC m_MO_visitNow) 0 = .ok (.aload_n 0, 1) := by decide +kernel
theorem d_MO_visitNow_1 : decode (mC m_MO_visitNow) 1 = .ok (.iload_n 1, 1) := by decide +kernel
theorem d_MO_visitNow_2 : decode (mC m_MO_visitNow) 2 = .ok (.invokevirtual 112, 3) := by decide +kernel
theorem d_MO_visitNow_5 : decode (mC m_MO_visitNow) 5 = .ok (.istore_n 2, 1) := by decide +kernel
theorem d_MO_visitNow_6 : decode (mC m_MO_visitNow) 6 = .ok (.aload_n 0, 1) := by decide +kernel
theorem d_MO_visitNow_7 : decode (mC m_MO_visitNow) 7 = .ok (.getfield 7, 3) := by decide +kernel
theorem d_MO_visitNow_10 : decode (mC m_MO_visitNow) 10 = .ok (.bipush 11, 2) := by decide +kernel
theorem d_MO_visitNow_12 : decode (mC m_MO_visitNow) 12 = .ok (.dup2, 1) := by decide +kernel
theorem d_MO_visitNow_13 : decode (mC m_MO_visitNow) 13 = .ok (.iaload, 1) := by decide +kernel
theorem d_MO_visitNow_14 : decode (mC m_MO_visitNow) 14 = .ok (.iconst 1, 1) := by decide +kernel
theorem d_MO_visitNow_15 : decode (mC m_MO_visitNow) 15 = .ok (.iadd, 1) := by decide +kernel
theorem d_MO_visitNow_16 : decode (mC m_MO_visitNow) 16 = .ok (.iastore, 1) := by decide +kernel
theorem d_MO_visitNow_17 : decode (mC m_MO_visitNow) 17 = .ok (.aload_n 0, 1) := by decide +kernel
theorem d_MO_visitNow_18 : decode (mC m_MO_visitNow) 18 = .ok (.iload_n 1, 1) := by decide +kernel
theorem d_MO_visitNow_19 : decode (mC m_MO_visitNow) 19 = .ok (.bipush 10, 2) := by decide +kernel
theorem d_MO_visitNow_21 : decode (mC m_MO_visitNow) 21 = .ok (.aload_n 0, 1) := by decide +kernel
theorem d_MO_visitNow_22 : decode (mC m_MO_visitNow) 22 = .ok (.getfield 7, 3) := by decide +kernel
theorem d_MO_visitNow_25 : decode (mC m_MO_visitNow) 25 = .ok (.bipush 9, 2) := by decide +kernel
theorem d_MO_visitNow_27 : decode (mC m_MO_visitNow) 27 = .ok (.iaload, 1) := by decide +kernel
theorem d_MO_visitNow_28 : decode (mC m_MO_visitNow) 28 = .ok (.invokevirtual 65, 3) := by decide +kernel
theorem d_MO_visitNow_31 : decode (mC m_MO_visitNow) 31 = .ok (.aload_n 0, 1) := by decide +kernel
theorem d_MO_visitNow_32 : decode (mC m_MO_visitNow) 32 = .ok (.iload_n 1, 1) := by decide +kernel
theorem d_MO_visitNow_33 : decode (mC m_MO_visitNow) 33 = .ok (.bipush 8, 2) := by decide +kernel
theorem d_MO_visitNow_35 : decode (mC m_MO_visitNow) 35 = .ok (.iconst 0, 1) := by decide +kernel
theorem d_MO_visitNow_36 : decode (mC m_MO_visitNow) 36 = .ok (.invokevirtual 65, 3) := by decide +kernel
theorem d_MO_visitNow_39 : decode (mC m_MO_visitNow) 39 = .ok (.aload_n 0, 1) := by decide +kernel
theorem d_MO_visitNow_40 : decode (mC m_MO_visitNow) 40 = .ok (.iload_n 1, 1) := by decide +kernel
theorem d_MO_visitNow_41 : decode (mC m_MO_visitNow) 41 = .ok (.invokevirtual 106, 3) := by decide +kernel
theorem d_MO_visitNow_44 : decode (mC m_MO_visitNow) 44 = .ok (.ifCond .le 38, 3) := by decide +kernel
theorem d_MO_visitNow_47 : decode (mC m_MO_visitNow) 47 = .ok (.aload_n 0, 1) := by decide +kernel
theorem d_MO_visitNow_48 : decode (mC m_MO_visitNow) 48 = .ok (.iload_n 1, 1) := by decide +kernel
theorem d_MO_visitNow_49 : decode (mC m_MO_visitNow) 49 = .ok (.iconst 0, 1) := by decide +kernel
theorem d_MO_visitNow_50 : decode (mC m_MO_visitNow) 50 = .ok (.iload_n 2, 1) := by decide +kernel
theorem d_MO_visitNow_51 : decode (mC m_MO_visitNow) 51 = .ok (.ineg, 1) := by decide +kernel
theorem d_MO_visitNow_52 : decode (mC m_MO_visitNow) 52 = .ok (.invokevirtual 96, 3) := by decide +kernel
theorem d_MO_visitNow_55 : decode (mC m_MO_visitNow) 55 = .ok (.aload_n 0, 1) := by decide +kernel
theorem d_MO_visitNow_56 : decode (mC m_MO_visitNow) 56 = .ok (.iload_n 1, 1) := by decide +kernel
theorem d_MO_visitNow_57 : decode (mC m_MO_visitNow) 57 = .ok (.bipush 13, 2) := by decide +kernel
theorem d_MO_visitNow_59 : decode (mC m_MO_visitNow) 59 = .ok (.iload_n 2, 1) := by decide +kernel
theorem d_MO_visitNow_60 : decode (mC m_MO_visitNow) 60 = .ok (.invokevirtual 96, 3) := by decide +kernel
theorem d_MO_visitNow_63 : decode (mC m_MO_visitNow) 63 = .ok (.aload_n 0, 1) := by decide +kernel
theorem d_MO_visitNow_64 : decode (mC m_MO_visitNow) 64 = .ok (.iload_n 1, 1) := by decide +kernel
theorem d_MO_visitNow_65 : decode (mC m_MO_visitNow) 65 = .ok (.bipush 9, 2) := by decide +kernel
theorem d_MO_visitNow_67 : decode (mC m_MO_visitNow) 67 = .ok (.iconst 1, 1) := by decide +kernel
theorem d_MO_visitNow_68 : decode (mC m_MO_visitNow) 68 = .ok (.invokevirtual 96, 3) := by decide +kernel
theorem d_MO_visitNow_71 : decode (mC m_MO_visitNow) 71 = .ok (.aload_n 0, 1) := by decide +kernel
theorem d_MO_visitNow_72 : decode (mC m_MO_visitNow) 72 = .ok (.getfield 7, 3) := by decide +kernel
theorem d_MO_visitNow_75 : decode (mC m_MO_visitNow) 75 = .ok (.bipush 10, 2) := by decide +kernel
theorem d_MO_visitNow_77 : decode (mC m_MO_visitNow) 77 = .ok (.dup2, 1) := by decide +kernel
theorem d_MO_visitNow_78 : decode (mC m_MO_visitNow) 78 = .ok (.iaload, 1) := by decide +kernel
theorem d_MO_visitNow_79 : decode (mC m_MO_visitNow) 79 = .ok (.iload_n 2, 1) := by decide +kernel
theorem d_MO_visitNow_80 : decode (mC m_MO_visitNow) 80 = .ok (.iadd, 1) := by decide +kernel
theorem d_MO_visitNow_81 : decode (mC m_MO_visitNow) 81 = .ok (.iastore, 1) := by decide +kernel
theorem d_MO_visitNow_82 : decode (mC m_MO_visitNow) 82 = .ok (.aload_n 0, 1) := by decide +kernel
theorem d_MO_visitNow_83 : decode (mC m_MO_visitNow) 83 = .ok (.iload_n 1, 1) := by decide +kernel
theorem d_MO_visitNow_84 : decode (mC m_MO_visitNow) 84 = .ok (.invokevirtual 99, 3) := by decide +kernel
theorem d_MO_visitNow_87 : decode (mC m_MO_visitNow) 87 = .ok (.ifCond .ne 17, 3) := by decide +kernel
theorem d_MO_visitNow_90 : decode (mC m_MO_visitNow) 90 = .ok (.aload_n 0, 1) := by decide +kernel
theorem d_MO_visitNow_91 : decode (mC m_MO_visitNow) 91 = .ok (.iload_n 1, 1) := by decide +kernel
theorem d_MO_visitNow_92 : decode (mC m_MO_visitNow) 92 = .ok (.iconst 1, 1) := by decide +kernel
theorem d_MO_visitNow_93 : decode (mC m_MO_visitNow) 93 = .ok (.iconst 0, 1) := by decide +kernel
theorem d_MO_visitNow_94 : decode (mC m_MO_visitNow) 94 = .ok (.invokevirtual 65, 3) := by decide +kernel
theorem d_MO_visitNow_97 : decode (mC m_MO_visitNow) 97 = .ok (.aload_n 0, 1) := by decide +kernel
theorem d_MO_visitNow_98 : decode (mC m_MO_visitNow) 98 = .ok (.iload_n 1, 1) := by decide +kernel
theorem d_MO_visitNow_99 : decode (mC m_MO_visitNow) 99 = .ok (.iconst 2, 1) := by decide +kernel
theorem d_MO_visitNow_100 : decode (mC m_MO_visitNow) 100 = .ok (.iconst 0, 1) := by decide +kernel
theorem d_MO_visitNow_101 : decode (mC m_MO_visitNow) 101 = .ok (.invokevirtual 65, 3) := by decide +kernel
theorem d_MO_visitNow_104 : decode (mC m_MO_visitNow) 104 = .ok (.aload_n 0, 1) := by decide +kernel
theorem d_MO_visitNow_105 : decode (mC m_MO_visitNow) 105 = .ok (.iload_n 1, 1) := by decide +kernel
theorem d_MO_visitNow_106 : decode (mC m_MO_visitNow) 106 = .ok (.bipush 11, 2) := by decide +kernel
theorem d_MO_visitNow_108 : decode (mC m_MO_visitNow) 108 = .ok (.aload_n 0, 1) := by decide +kernel
theorem d_MO_visitNow_109 : decode (mC m_MO_visitNow) 109 = .ok (.getfield 7, 3) := by decide +kernel
theorem d_MO_visitNow_112 : decode (mC m_MO_visitNow) 112 = .ok (.bipush 9, 2) := by decide +kernel
theorem d_MO_visitNow_114 : decode (mC m_MO_visitNow) 114 = .ok (.iaload, 1) := by decide +kernel
theorem d_MO_visitNow_115 : decode (mC m_MO_visitNow) 115 = .ok (.aload_n 0, 1) := by decide +kernel
theorem d_MO_visitNow_116 : decode (mC m_MO_visitNow) 116 = .ok (.getfield 7, 3) := by decide +kernel
theorem d_MO_visitNow_119 : decode (mC m_MO_visitNow) 119 = .ok (.iconst 3, 1) := by decide +kernel
theorem d_MO_visitNow_120 : decode (mC m_MO_visitNow) 120 = .ok (.iaload, 1) := by decide +kernel
theorem d_MO_visitNow_121 : decode (mC m_MO_visitNow) 121 = .ok (.iadd, 1) := by decide +kernel
theorem d_MO_visitNow_122 : decode (mC m_MO_visitNow) 122 = .ok (.invokevirtual 65, 3) := by decide +kernel
theorem d_MO_visitNow_125 : decode (mC m_MO_visitNow) 125 = .ok (.aload_n 0, 1) := by decide +kernel
theorem d_MO_visitNow_126 : decode (mC m_MO_visitNow) 126 = .ok (.iload_n 1, 1) := by decide +kernel
theorem d_MO_visitNow_127 : decode (mC m_MO_visitNow) 127 = .ok (.bipush 9, 2) := by decide +kernel
theorem d_MO_visitNow_129 : decode (mC m_MO_visitNow) 129 = .ok (.invokevirtual 69, 3) := by decide +kernel
theorem d_MO_visitNow_132 : decode (mC m_MO_visitNow) 132 = .ok (.iconst 3, 1) := by decide +kernel
theorem d_MO_visitNow_133 : decode (mC m_MO_visitNow) 133 = .ok (.if_icmp .lt 11, 3) := by decide +kernel
theorem d_MO_visitNow_136 : decode (mC m_MO_visitNow) 136 = .ok (.aload_n 0, 1) := by decide +kernel
theorem d_MO_visitNow_137 : decode (mC m_MO_visitNow) 137 = .ok (.iload_n 1, 1) := by decide +kernel
theorem d_MO_visitNow_138 : decode (mC m_MO_visitNow) 138 = .ok (.bipush 12, 2) := by decide +kernel
theorem d_MO_visitNow_140 : decode (mC m_MO_visitNow) 140 = .ok (.iconst 0, 1) := by decide +kernel
theorem d_MO_visitNow_141 : decode (mC m_MO_visitNow) 141 = .ok (.invokevirtual 65, 3) := by decide +kernel
theorem d_MO_visitNow_144 : decode (mC m_MO_visitNow) 144 = .ok (.iload_n 2, 1) := by decide +kernel
theorem d_MO_visitNow_145 : decode (mC m_MO_visitNow) 145 = .ok (.ireturn, 1) := by decide +kernel
set_option maxRecDepth 20000 in
theorem cm_MO_of {E : En} {h : Hp} {m st nw sc : Nat} {c g : Nat → Int32} {B : Bu} {R : List (Nat × (Nat → Int32))} {i k : Nat} (hM : MoOk h m st) (nd : (m :: st :: R.map Prod.fst).Nodup) (n6 : nw ≤ 6) (s8 : sc ≤ 8) (hi : i < sc) (hk : k < 15) : CR E m_MO_of [.ref m, .int (nI i), .int (nI k)] (wL h ((m, c) :: (st, enc nw sc B g) :: R)) (some (.int (B.2.2 i k))) (wL h ((m, c) :: (st, enc nw sc B g) :: R)) := by
  refine ct_of rfl (by decide +kernel) (Nat.le_of_ble_eq_true rfl) ?_
  show G E m_MO_of 0 [(0, .ref m), (1, .int (nI i)), (2, .int (nI k))] [] (wL h ((m, c) :: (st, enc nw sc B g) :: R)) 0 0 _ noX
  obtain ⟨k_m, r_m_0, k_st, l_st⟩ := id hM
  refine g_aload_n (pc := 0) d_MO_of_0 rfl 0 rfl ?_
  refine g_getR (pc := 1) (ci := 7) (f := 0) (b := st) rfl r_m_0 d_MO_of_1 fl_MO_7 (by decide) k_m ?_
  refine g_bipush (pc := 4) (v := 20) d_MO_of_4 (by decide) ?_
  refine g_bipush (pc := 6) (v := 15) d_MO_of_6 (by decide) ?_
  refine g_iload_n (pc := 8) d_MO_of_8 rfl 1 rfl ?_
  refine g_imul (pc := 9) d_MO_of_9 ?_
  refine g_iadd (pc := 10) d_MO_of_10 ?_
  refine g_iload_n (pc := 11) d_MO_of_11 rfl 2 rfl ?_
  refine g_iadd (pc := 12) d_MO_of_12 ?_
  refine g_mS (pc := 13) (i := i) (k := k) d_MO_of_13 k_st l_st n6 s8 (by first | assumption | omega | decide) (by first | assumption | omega | decide) nd ?_
  refine g_iret (pc := 14) d_MO_of_14 rfl ?_
  exact ⟨rfl, rfl⟩
set_option maxRecDepth 20000 in
theorem cm_MO_put {E : En} {h : Hp} {m st nw sc : Nat} {c g : Nat → Int32} {B : Bu} {R : List (Nat × (Nat → Int32))} {i k : Nat} {v : Int32} (hM : MoOk h m st) (nd : (m :: st :: R.map Prod.fst).Nodup) (n6 : nw ≤ 6) (s8 : sc ≤ 8) (hi : i < sc) (hk : k < 15) : CR E m_MO_put [.ref m, .int (nI i), .int (nI k), .int v] (wL h ((m, c) :: (st, enc nw sc B g) :: R)) (none) (wL h ((m, c) :: (st, enc nw sc (sS B i (u1 (B.2.2 i) k v)) g) :: R)) := by
  refine ct_of rfl (by decide +kernel) (Nat.le_of_ble_eq_true rfl) ?_
  show G E m_MO_put 0 [(0, .ref m), (1, .int (nI i)), (2, .int (nI k)), (3, .int v)] [] (wL h ((m, c) :: (st, enc nw sc B g) :: R)) 0 0 _ noX
  obtain ⟨k_m, r_m_0, k_st, l_st⟩ := id hM
  refine g_aload_n (pc := 0) d_MO_put_0 rfl 0 rfl ?_
  refine g_getR (pc := 1) (ci := 7) (f := 0) (b := st) rfl r_m_0 d_MO_put_1 fl_MO_7 (by decide) k_m ?_
  refine g_bipush (pc := 4) (v := 20) d_MO_put_4 (by decide) ?_
  refine g_bipush (pc := 6) (v := 15) d_MO_put_6 (by decide) ?_
  refine g_iload_n (pc := 8) d_MO_put_8 rfl 1 rfl ?_
  refine g_imul (pc := 9) d_MO_put_9 ?_
  refine g_iadd (pc := 10) d_MO_put_10 ?_
  refine g_iload_n (pc := 11) d_MO_put_11 rfl 2 rfl ?_
  refine g_iadd (pc := 12) d_MO_put_12 ?_
  refine g_iload_n (pc := 13) d_MO_put_13 rfl 3 rfl ?_
  refine g_mSS (pc := 14) (i := i) (k := k) d_MO_put_14 k_st l_st n6 s8 (by first | assumption | omega | decide) (by first | assumption | omega | decide) nd ?_
  refine g_vret (pc := 15) d_MO_put_15 rfl ?_
  exact ⟨rfl, rfl⟩
set_option maxRecDepth 20000 in
theorem cm_MO_addTo {E : En} {h : Hp} {m st nw sc : Nat} {c g : Nat → Int32} {B : Bu} {R : List (Nat × (Nat → Int32))} {i k : Nat} {v : Int32} (hM : MoOk h m st) (nd : (m :: st :: R.map Prod.fst).Nodup) (n6 : nw ≤ 6) (s8 : sc ≤ 8) (hi : i < sc) (hk : k < 15) : CR E m_MO_addTo [.ref m, .int (nI i), .int (nI k), .int v] (wL h ((m, c) :: (st, enc nw sc B g) :: R)) (none) (wL h ((m, c) :: (st, enc nw sc (sS B i (u1 (B.2.2 i) k (B.2.2 i k + v))) g) :: R)) := by
  refine ct_of rfl (by decide +kernel) (Nat.le_of_ble_eq_true rfl) ?_
  show G E m_MO_addTo 0 [(0, .ref m), (1, .int (nI i)), (2, .int (nI k)), (3, .int v)] [] (wL h ((m, c) :: (st, enc nw sc B g) :: R)) 0 0 _ noX
  obtain ⟨k_m, r_m_0, k_st, l_st⟩ := id hM
  refine g_aload_n (pc := 0) d_MO_addTo_0 rfl 0 rfl ?_
  refine g_getR (pc := 1) (ci := 7) (f := 0) (b := st) rfl r_m_0 d_MO_addTo_1 fl_MO_7 (by decide) k_m ?_
  refine g_bipush (pc := 4) (v := 20) d_MO_addTo_4 (by decide) ?_
  refine g_bipush (pc := 6) (v := 15) d_MO_addTo_6 (by decide) ?_
  refine g_iload_n (pc := 8) d_MO_addTo_8 rfl 1 rfl ?_
  refine g_imul (pc := 9) d_MO_addTo_9 ?_
  refine g_iadd (pc := 10) d_MO_addTo_10 ?_
  refine g_iload_n (pc := 11) d_MO_addTo_11 rfl 2 rfl ?_
  refine g_iadd (pc := 12) d_MO_addTo_12 ?_
  refine g_dup2 (pc := 13) d_MO_addTo_13 rfl rfl ?_
  refine g_mS (pc := 14) (i := i) (k := k) d_MO_addTo_14 k_st l_st n6 s8 (by first | assumption | omega | decide) (by first | assumption | omega | decide) nd ?_
  refine g_iload_n (pc := 15) d_MO_addTo_15 rfl 3 rfl ?_
  refine g_iadd (pc := 16) d_MO_addTo_16 ?_
  refine g_mSS (pc := 17) (i := i) (k := k) d_MO_addTo_17 k_st l_st n6 s8 (by first | assumption | omega | decide) (by first | assumption | omega | decide) nd ?_
  refine g_vret (pc := 18) d_MO_addTo_18 rfl ?_
  exact ⟨rfl, rfl⟩
set_option maxRecDepth 20000 in
theorem cm_MO_isOpenShop {E : En} {h : Hp} {m st nw sc : Nat} {c g : Nat → Int32} {B : Bu} {R : List (Nat × (Nat → Int32))} {i : Nat} (hM : MoOk h m st) (nd : (m :: st :: R.map Prod.fst).Nodup) (n6 : nw ≤ 6) (s8 : sc ≤ 8) (hi : i < sc) (ho : B.2.2 i 12 = 0 ∨ B.2.2 i 12 = 1) : CR E m_MO_isOpenShop [.ref m, .int (nI i)] (wL h ((m, c) :: (st, enc nw sc B g) :: R)) (some (.int (bI (decide (B.2.2 i 12 ≠ 0))))) (wL h ((m, c) :: (st, enc nw sc B g) :: R)) := by
  refine ct_of rfl (by decide +kernel) (Nat.le_of_ble_eq_true rfl) ?_
  show G E m_MO_isOpenShop 0 [(0, .ref m), (1, .int (nI i))] [] (wL h ((m, c) :: (st, enc nw sc B g) :: R)) 0 0 _ noX
  obtain ⟨k_m, r_m_0, k_st, l_st⟩ := id hM
  refine g_aload_n (pc := 0) d_MO_isOpenShop_0 rfl 0 rfl ?_
  refine g_iload_n (pc := 1) d_MO_isOpenShop_1 rfl 1 rfl ?_
  refine g_bipush (pc := 2) (v := 12) d_MO_isOpenShop_2 (by decide) ?_
  refine g_cV1 (pc := 4) (ci := 7) (As := [.int _, .int _]) d_MO_isOpenShop_4 rfl mv_MO_of st_MO_isOpenShop_69 rfl rfl (by decide) rfl rfl (Nat.le_of_ble_eq_true rfl) k_m (cm_MO_of (k := 12) hM nd n6 s8 (by first | assumption | omega | decide) (by decide)) ?_
  refine g_iconst (pc := 7) (v := 1) d_MO_isOpenShop_7 (by decide) ?_
  refine g_icmp_ne (pc := 8) (tgt := 15) d_MO_isOpenShop_8 (by decide) (fun c_8 => ?_) (fun c_8 => ?_)
  · skip
    refine g_iconst (pc := 15) (v := 0) d_MO_isOpenShop_15 (by decide) ?_
    refine g_zret (pc := 16) d_MO_isOpenShop_16 rfl (by first | rfl | exact nar_bI _) ?_
    refine ⟨?_, rfl⟩
    first | (rcases ho with z | z <;> rw [z] at c_8 ⊢ <;> first | rfl | exact absurd c_8 (by decide) | exact absurd rfl c_8)
  · skip
    refine g_iconst (pc := 11) (v := 1) d_MO_isOpenShop_11 (by decide) ?_
    refine g_goto (pc := 12) (tgt := 16) d_MO_isOpenShop_12 (by decide) ?_
    refine g_zret (pc := 16) d_MO_isOpenShop_16 rfl (by first | rfl | exact nar_bI _) ?_
    refine ⟨?_, rfl⟩
    first | (rcases ho with z | z <;> rw [z] at c_8 ⊢ <;> first | rfl | exact absurd c_8 (by decide) | exact absurd rfl c_8)
set_option maxRecDepth 20000 in
theorem cm_MO_errorFor {E : En} {h : Hp} {m st nw sc : Nat} {c g : Nat → Int32} {B : Bu} {R : List (Nat × (Nat → Int32))} {i : Nat} {v : Int32} (hM : MoOk h m st) (nd : (m :: st :: R.map Prod.fst).Nodup) (n6 : nw ≤ 6) (s8 : sc ≤ 8) (hi : i < sc) : CR E m_MO_errorFor [.ref m, .int (nI i), .int v] (wL h ((m, c) :: (st, enc nw sc B g) :: R)) (some (.int (M_err (B.2.2 i) v))) (wL h ((m, c) :: (st, enc nw sc B g) :: R)) := by
  refine ct_of rfl (by decide +kernel) (Nat.le_of_ble_eq_true rfl) ?_
  show G E m_MO_errorFor 0 [(0, .ref m), (1, .int (nI i)), (2, .int v)] [] (wL h ((m, c) :: (st, enc nw sc B g) :: R)) 0 0 _ noX
  obtain ⟨k_m, r_m_0, k_st, l_st⟩ := id hM
  refine g_aload_n (pc := 0) d_MO_errorFor_0 rfl 0 rfl ?_
  refine g_iload_n (pc := 1) d_MO_errorFor_1 rfl 1 rfl ?_
  refine g_iconst (pc := 2) (v := 1) d_MO_errorFor_2 (by decide) ?_
  refine g_cV1 (pc := 3) (ci := 7) (As := [.int _, .int _]) d_MO_errorFor_3 rfl mv_MO_of st_MO_errorFor_69 rfl rfl (by decide) rfl rfl (Nat.le_of_ble_eq_true rfl) k_m (cm_MO_of (k := 1) hM nd n6 s8 (by first | assumption | omega | decide) (by decide)) ?_
  refine g_iload_n (pc := 6) d_MO_errorFor_6 rfl 2 rfl ?_
  refine g_aload_n (pc := 7) d_MO_errorFor_7 rfl 0 rfl ?_
  refine g_iload_n (pc := 8) d_MO_errorFor_8 rfl 1 rfl ?_
  refine g_iconst (pc := 9) (v := 2) d_MO_errorFor_9 (by decide) ?_
  refine g_cV1 (pc := 10) (ci := 7) (As := [.int _, .int _]) d_MO_errorFor_10 rfl mv_MO_of st_MO_errorFor_69 rfl rfl (by decide) rfl rfl (Nat.le_of_ble_eq_true rfl) k_m (cm_MO_of (k := 2) hM nd n6 s8 (by first | assumption | omega | decide) (by decide)) ?_
  refine g_imul (pc := 13) d_MO_errorFor_13 ?_
  refine g_sipush (pc := 14) (v := 1000) d_MO_errorFor_14 (by decide) ?_
  refine g_idiv (pc := 17) d_MO_errorFor_17 (by decide) ?_
  refine g_iadd (pc := 18) d_MO_errorFor_18 ?_
  refine g_iret (pc := 19) d_MO_errorFor_19 rfl ?_
  exact ⟨rfl, rfl⟩
set_option maxRecDepth 20000 in
theorem cm_MO_boundFor {E : En} {h : Hp} {m st nw sc : Nat} {c g : Nat → Int32} {B : Bu} {R : List (Nat × (Nat → Int32))} {v : Int32} (hM : MoOk h m st) (nd : (m :: st :: R.map Prod.fst).Nodup) (n6 : nw ≤ 6) (s8 : sc ≤ 8) : CR E m_MO_boundFor [.ref m, .int v] (wL h ((m, c) :: (st, enc nw sc B g) :: R)) (some (.int (M_bound B.1 v))) (wL h ((m, c) :: (st, enc nw sc B g) :: R)) := by
  refine ct_of rfl (by decide +kernel) (Nat.le_of_ble_eq_true rfl) ?_
  show G E m_MO_boundFor 0 [(0, .ref m), (1, .int v)] [] (wL h ((m, c) :: (st, enc nw sc B g) :: R)) 0 0 _ noX
  obtain ⟨k_m, r_m_0, k_st, l_st⟩ := id hM
  refine g_aload_n (pc := 0) d_MO_boundFor_0 rfl 0 rfl ?_
  refine g_getR (pc := 1) (ci := 7) (f := 0) (b := st) rfl r_m_0 d_MO_boundFor_1 fl_MO_7 (by decide) k_m ?_
  refine g_iconst (pc := 4) (v := 0) d_MO_boundFor_4 (by decide) ?_
  refine g_mI (pc := 5) (k := 0) d_MO_boundFor_5 k_st l_st (by decide) nd ?_
  refine g_iload_n (pc := 6) d_MO_boundFor_6 rfl 1 rfl ?_
  refine g_aload_n (pc := 7) d_MO_boundFor_7 rfl 0 rfl ?_
  refine g_getR (pc := 8) (ci := 7) (f := 0) (b := st) rfl r_m_0 d_MO_boundFor_8 fl_MO_7 (by decide) k_m ?_
  refine g_iconst (pc := 11) (v := 1) d_MO_boundFor_11 (by decide) ?_
  refine g_mI (pc := 12) (k := 1) d_MO_boundFor_12 k_st l_st (by decide) nd ?_
  refine g_imul (pc := 13) d_MO_boundFor_13 ?_
  refine g_sipush (pc := 14) (v := 1000) d_MO_boundFor_14 (by decide) ?_
  refine g_idiv (pc := 17) d_MO_boundFor_17 (by decide) ?_
  refine g_iadd (pc := 18) d_MO_boundFor_18 ?_
  refine g_iret (pc := 19) d_MO_boundFor_19 rfl ?_
  exact ⟨rfl, rfl⟩
set_option maxRecDepth 20000 in
theorem cm_MO_excessFor {E : En} {h : Hp} {m st nw sc : Nat} {c g : Nat → Int32} {B : Bu} {R : List (Nat × (Nat → Int32))} {i : Nat} {v : Int32} (hM : MoOk h m st) (nd : (m :: st :: R.map Prod.fst).Nodup) (n6 : nw ≤ 6) (s8 : sc ≤ 8) (hi : i < sc) : CR E m_MO_excessFor [.ref m, .int (nI i), .int v] (wL h ((m, c) :: (st, enc nw sc B g) :: R)) (some (.int (M_exc B.1 (B.2.2 i) v))) (wL h ((m, c) :: (st, enc nw sc B g) :: R)) := by
  refine ct_of rfl (by decide +kernel) (Nat.le_of_ble_eq_true rfl) ?_
  show G E m_MO_excessFor 0 [(0, .ref m), (1, .int (nI i)), (2, .int v)] [] (wL h ((m, c) :: (st, enc nw sc B g) :: R)) 0 0 _ noX
  obtain ⟨k_m, r_m_0, k_st, l_st⟩ := id hM
  refine g_aload_n (pc := 0) d_MO_excessFor_0 rfl 0 rfl ?_
  refine g_iload_n (pc := 1) d_MO_excessFor_1 rfl 1 rfl ?_
  refine g_iload_n (pc := 2) d_MO_excessFor_2 rfl 2 rfl ?_
  refine g_cV1 (pc := 3) (ci := 7) (As := [.int _, .int _]) d_MO_excessFor_3 rfl mv_MO_errorFor st_MO_excessFor_73 rfl rfl (by decide) rfl rfl (Nat.le_of_ble_eq_true rfl) k_m (cm_MO_errorFor hM nd n6 s8 (by first | assumption | omega | decide)) ?_
  refine g_istore_n (pc := 6) (lv' := [(3, .int (M_err (B.2.2 i) v)), (0, .ref m), (1, .int (nI i)), (2, .int v)]) d_MO_excessFor_6 rfl (by decide) rfl ?_
  refine g_iload_n (pc := 7) d_MO_excessFor_7 rfl 0 rfl ?_
  refine g_if_ge (pc := 8) (tgt := 16) d_MO_excessFor_8 (by decide) (fun c_8 => ?_) (fun c_8 => ?_)
  · skip
    refine g_iload_n (pc := 16) d_MO_excessFor_16 rfl 0 rfl ?_
    refine g_aload_n (pc := 17) d_MO_excessFor_17 rfl 1 rfl ?_
    refine g_iload_n (pc := 18) d_MO_excessFor_18 rfl 3 rfl ?_
    refine g_cV1 (pc := 19) (ci := 7) (As := [.int _]) d_MO_excessFor_19 rfl mv_MO_boundFor st_MO_excessFor_76 rfl rfl (by decide) rfl rfl (Nat.le_of_ble_eq_true rfl) k_m (cm_MO_boundFor hM nd n6 s8) ?_
    refine g_isub (pc := 22) d_MO_excessFor_22 ?_
    refine g_nameI (fun x_1 hx_1 => ?_)
    refine g_istore (pc := 23) (lv' := [(4, .int x_1), (3, .int (M_err (B.2.2 i) v)), (0, .ref m), (1, .int (nI i)), (2, .int v)]) d_MO_excessFor_23 (by decide) rfl ?_
    refine g_iload (pc := 25) d_MO_excessFor_25 0 rfl ?_
    refine g_if_ge (pc := 27) (tgt := 34) d_MO_excessFor_27 (by decide) (fun c_27 => ?_) (fun c_27 => ?_)
    · skip
      refine g_iload (pc := 34) d_MO_excessFor_34 0 rfl ?_
      refine g_iret (pc := 36) d_MO_excessFor_36 rfl ?_
      refine ⟨congrArg (fun q => some (Value.int q)) ?_, rfl⟩
      unfold M_exc
      rw [← i_neg_abs, ← i_pos_neg]
      first | (rw [if_neg (Int32.not_lt.mpr c_8)]; subst hx_1; first | (rw [if_neg (Int32.not_lt.mpr c_27)]; done) | (rw [if_pos (Int32.not_le.mp c_27)]; done)) | (rw [if_pos (Int32.not_le.mp c_8)]; subst hx_2; first | (rw [if_neg (Int32.not_lt.mpr c_27)]; done) | (rw [if_pos (Int32.not_le.mp c_27)]; done))
    · skip
      refine g_iconst (pc := 30) (v := 0) d_MO_excessFor_30 (by decide) ?_
      refine g_goto (pc := 31) (tgt := 36) d_MO_excessFor_31 (by decide) ?_
      refine g_iret (pc := 36) d_MO_excessFor_36 rfl ?_
      refine ⟨congrArg (fun q => some (Value.int q)) ?_, rfl⟩
      unfold M_exc
      rw [← i_neg_abs, ← i_pos_neg]
      first | (rw [if_neg (Int32.not_lt.mpr c_8)]; subst hx_1; first | (rw [if_neg (Int32.not_lt.mpr c_27)]; done) | (rw [if_pos (Int32.not_le.mp c_27)]; done)) | (rw [if_pos (Int32.not_le.mp c_8)]; subst hx_2; first | (rw [if_neg (Int32.not_lt.mpr c_27)]; done) | (rw [if_pos (Int32.not_le.mp c_27)]; done))
  · skip
    refine g_iload_n (pc := 11) d_MO_excessFor_11 rfl 0 rfl ?_
    refine g_ineg (pc := 12) d_MO_excessFor_12 ?_
    refine g_goto (pc := 13) (tgt := 17) d_MO_excessFor_13 (by decide) ?_
    refine g_aload_n (pc := 17) d_MO_excessFor_17 rfl 1 rfl ?_
    refine g_iload_n (pc := 18) d_MO_excessFor_18 rfl 3 rfl ?_
    refine g_cV1 (pc := 19) (ci := 7) (As := [.int _]) d_MO_excessFor_19 rfl mv_MO_boundFor st_MO_excessFor_76 rfl rfl (by decide) rfl rfl (Nat.le_of_ble_eq_true rfl) k_m (cm_MO_boundFor hM nd n6 s8) ?_
    refine g_isub (pc := 22) d_MO_excessFor_22 ?_
    refine g_nameI (fun x_2 hx_2 => ?_)
    refine g_istore (pc := 23) (lv' := [(4, .int x_2), (3, .int (M_err (B.2.2 i) v)), (0, .ref m), (1, .int (nI i)), (2, .int v)]) d_MO_excessFor_23 (by decide) rfl ?_
    refine g_iload (pc := 25) d_MO_excessFor_25 0 rfl ?_
    refine g_if_ge (pc := 27) (tgt := 34) d_MO_excessFor_27 (by decide) (fun c_27 => ?_) (fun c_27 => ?_)
    · skip
      refine g_iload (pc := 34) d_MO_excessFor_34 0 rfl ?_
      refine g_iret (pc := 36) d_MO_excessFor_36 rfl ?_
      refine ⟨congrArg (fun q => some (Value.int q)) ?_, rfl⟩
      unfold M_exc
      rw [← i_neg_abs, ← i_pos_neg]
      first | (rw [if_neg (Int32.not_lt.mpr c_8)]; subst hx_1; first | (rw [if_neg (Int32.not_lt.mpr c_27)]; done) | (rw [if_pos (Int32.not_le.mp c_27)]; done)) | (rw [if_pos (Int32.not_le.mp c_8)]; subst hx_2; first | (rw [if_neg (Int32.not_lt.mpr c_27)]; done) | (rw [if_pos (Int32.not_le.mp c_27)]; done))
    · skip
      refine g_iconst (pc := 30) (v := 0) d_MO_excessFor_30 (by decide) ?_
      refine g_goto (pc := 31) (tgt := 36) d_MO_excessFor_31 (by decide) ?_
      refine g_iret (pc := 36) d_MO_excessFor_36 rfl ?_
      refine ⟨congrArg (fun q => some (Value.int q)) ?_, rfl⟩
      unfold M_exc
      rw [← i_neg_abs, ← i_pos_neg]
      first | (rw [if_neg (Int32.not_lt.mpr c_8)]; subst hx_1; first | (rw [if_neg (Int32.not_lt.mpr c_27)]; done) | (rw [if_pos (Int32.not_le.mp c_27)]; done)) | (rw [if_pos (Int32.not_le.mp c_8)]; subst hx_2; first | (rw [if_neg (Int32.not_lt.mpr c_27)]; done) | (rw [if_pos (Int32.not_le.mp c_27)]; done))
theorem lp_MO_totalOf {E : En} {h : Hp} {m st nw sc : Nat} {c g : Nat → Int32} {B : Bu} {R : List (Nat × (Nat → Int32))} {i : Nat} (hM : MoOk h m st) (nd : (m :: st :: R.map Prod.fst).Nodup) (n6 : nw ≤ 6) (s8 : sc ≤ 8) (hi : i < sc) (hw : B.1 7 = nI nw) : ∀ (d j : Nat) (t : Int32), j ≤ nw → t = M_tot B.1 B.2.1 (B.2.2 i) j → nw - j < d → G E m_MO_totalOf 4 [(3, .int (nI j)), (2, .int t), (0, .ref m), (1, .int (nI i))] [] (wL h ((m, c) :: (st, enc nw sc B g) :: R)) 0 0 (fun v1 h1 => v1 = some (.int (M_tot B.1 B.2.1 (B.2.2 i) nw)) ∧ h1 = wL h ((m, c) :: (st, enc nw sc B g) :: R)) noX := by
  obtain ⟨k_m, r_m_0, k_st, l_st⟩ := id hM
  intro d
  induction d with
  | zero => intros; omega
  | succ d ih =>
    intro j t hj ht hd
    refine g_iload_n (pc := 4) d_MO_totalOf_4 rfl 0 rfl ?_
    refine g_aload_n (pc := 5) d_MO_totalOf_5 rfl 2 rfl ?_
    refine g_getR (pc := 6) (ci := 7) (f := 0) (b := st) rfl r_m_0 d_MO_totalOf_6 fl_MO_7 (by decide) k_m ?_
    refine g_bipush (pc := 9) (v := 7) d_MO_totalOf_9 (by decide) ?_
    refine g_mI (pc := 11) (k := 7) d_MO_totalOf_11 k_st l_st (by decide) nd ?_
    refine g_icmp_ge (pc := 12) (tgt := 38) d_MO_totalOf_12 (by decide) (fun c_12 => ?_) (fun c_12 => ?_)
    · skip
      have e9 : j = nw := by rw [hw] at c_12; have := (nI_leI (by omega) (by omega)).mp c_12; omega
      refine g_iload_n (pc := 38) d_MO_totalOf_38 rfl 1 rfl ?_
      refine g_iret (pc := 39) d_MO_totalOf_39 rfl ?_
      rw [ht, e9]
      exact ⟨rfl, rfl⟩
    · skip
      have e9 : j < nw := by rw [hw] at c_12; exact Nat.lt_of_not_le (fun z => c_12 ((nI_leI (by omega) (by omega)).mpr z))
      refine g_iload_n (pc := 15) d_MO_totalOf_15 rfl 1 rfl ?_
      refine g_aload_n (pc := 16) d_MO_totalOf_16 rfl 2 rfl ?_
      refine g_iload_n (pc := 17) d_MO_totalOf_17 rfl 3 rfl ?_
      refine g_aload_n (pc := 18) d_MO_totalOf_18 rfl 2 rfl ?_
      refine g_getR (pc := 19) (ci := 7) (f := 0) (b := st) rfl r_m_0 d_MO_totalOf_19 fl_MO_7 (by decide) k_m ?_
      refine g_bipush (pc := 22) (v := 14) d_MO_totalOf_22 (by decide) ?_
      refine g_iload_n (pc := 24) d_MO_totalOf_24 rfl 0 rfl ?_
      refine g_iadd (pc := 25) d_MO_totalOf_25 ?_
      refine g_mW (pc := 26) (j := j) d_MO_totalOf_26 k_st l_st n6 (by first | assumption | omega | decide) nd ?_
      refine g_cV1 (pc := 27) (ci := 7) (As := [.int _, .int _]) d_MO_totalOf_27 rfl mv_MO_excessFor st_MO_totalOf_80 rfl rfl (by decide) rfl rfl (Nat.le_of_ble_eq_true rfl) k_m (cm_MO_excessFor hM nd n6 s8 (by first | assumption | omega | decide)) ?_
      refine g_iadd (pc := 30) d_MO_totalOf_30 ?_
      refine g_nameI (fun x_1 hx_1 => ?_)
      refine g_istore_n (pc := 31) (lv' := [(2, .int x_1), (3, .int (nI j)), (0, .ref m), (1, .int (nI i))]) d_MO_totalOf_31 rfl (by decide) rfl ?_
      obtain ⟨x_2, hx_2⟩ : ∃ y : Int32, y = (nI j) + 1 := ⟨_, rfl⟩
      refine g_iinc (pc := 32) (w := 1) (v := x_2) (lv' := [(3, .int x_2), (2, .int x_1), (0, .ref m), (1, .int (nI i))]) d_MO_totalOf_32 rfl (by rw [hx_2]; rfl) (by decide) rfl ?_
      refine g_goto (pc := 35) (tgt := 4) d_MO_totalOf_35 (by decide) ?_
      have e8 : x_2 = nI (j + 1) := by rw [hx_2]; exact nI_1 _
      clear hx_2
      subst e8
      refine g_perm [0, 1, 2, 3] rfl ?_
      exact ih (j + 1) _ (by omega) (by rw [hx_1, ht]; rfl) (by omega)
set_option maxRecDepth 20000 in
theorem cm_MO_totalOf {E : En} {h : Hp} {m st nw sc : Nat} {c g : Nat → Int32} {B : Bu} {R : List (Nat × (Nat → Int32))} {i : Nat} (hM : MoOk h m st) (nd : (m :: st :: R.map Prod.fst).Nodup) (n6 : nw ≤ 6) (s8 : sc ≤ 8) (hi : i < sc) (hw : B.1 7 = nI nw) : CR E m_MO_totalOf [.ref m, .int (nI i)] (wL h ((m, c) :: (st, enc nw sc B g) :: R)) (some (.int (M_tot B.1 B.2.1 (B.2.2 i) nw))) (wL h ((m, c) :: (st, enc nw sc B g) :: R)) := by
  refine ct_of rfl (by decide +kernel) (Nat.le_of_ble_eq_true rfl) ?_
  show G E m_MO_totalOf 0 [(0, .ref m), (1, .int (nI i))] [] (wL h ((m, c) :: (st, enc nw sc B g) :: R)) 0 0 _ noX
  obtain ⟨k_m, r_m_0, k_st, l_st⟩ := id hM
  refine g_iconst (pc := 0) (v := 0) d_MO_totalOf_0 (by decide) ?_
  refine g_nameI (fun x_1 hx_1 => ?_)
  refine g_istore_n (pc := 1) (lv' := [(2, .int x_1), (0, .ref m), (1, .int (nI i))]) d_MO_totalOf_1 rfl (by decide) rfl ?_
  refine g_iconst (pc := 2) (v := 0) d_MO_totalOf_2 (by decide) ?_
  refine g_nameI (fun x_2 hx_2 => ?_)
  refine g_istore_n (pc := 3) (lv' := [(3, .int x_2), (2, .int x_1), (0, .ref m), (1, .int (nI i))]) d_MO_totalOf_3 rfl (by decide) rfl ?_
  subst hx_1
  subst hx_2
  refine g_perm [0, 1, 2, 3] rfl ?_
  exact lp_MO_totalOf hM nd n6 s8 hi hw (nw + 1) 0 0 (Nat.zero_le _) rfl (by omega)
set_option maxRecDepth 20000 in
theorem cm_MO_isRight {E : En} {h : Hp} {m st nw sc : Nat} {c g : Nat → Int32} {B : Bu} {R : List (Nat × (Nat → Int32))} {i : Nat} (hM : MoOk h m st) (nd : (m :: st :: R.map Prod.fst).Nodup) (n6 : nw ≤ 6) (s8 : sc ≤ 8) (hi : i < sc) (hw : B.1 7 = nI nw) : CR E m_MO_isRight [.ref m, .int (nI i)] (wL h ((m, c) :: (st, enc nw sc B g) :: R)) (some (.int (bI (decide ((M_tot B.1 B.2.1 (B.2.2 i) nw) = 0))))) (wL h ((m, c) :: (st, enc nw sc B g) :: R)) := by
  refine ct_of rfl (by decide +kernel) (Nat.le_of_ble_eq_true rfl) ?_
  show G E m_MO_isRight 0 [(0, .ref m), (1, .int (nI i))] [] (wL h ((m, c) :: (st, enc nw sc B g) :: R)) 0 0 _ noX
  obtain ⟨k_m, r_m_0, k_st, l_st⟩ := id hM
  refine g_aload_n (pc := 0) d_MO_isRight_0 rfl 0 rfl ?_
  refine g_iload_n (pc := 1) d_MO_isRight_1 rfl 1 rfl ?_
  refine g_cV1 (pc := 2) (ci := 7) (As := [.int _]) d_MO_isRight_2 rfl mv_MO_totalOf st_MO_isRight_83 rfl rfl (by decide) rfl rfl (Nat.le_of_ble_eq_true rfl) k_m (cm_MO_totalOf hM nd n6 s8 (by first | assumption | omega | decide) hw) ?_
  refine g_if_ne (pc := 5) (tgt := 12) d_MO_isRight_5 (by decide) (fun c_5 => ?_) (fun c_5 => ?_)
  · skip
    refine g_iconst (pc := 12) (v := 0) d_MO_isRight_12 (by decide) ?_
    refine g_zret (pc := 13) d_MO_isRight_13 rfl (by first | rfl | exact nar_bI _) ?_
    refine ⟨?_, rfl⟩
    first | (rw [decide_eq_false c_5]; rfl) | (rw [decide_eq_true c_5]; rfl)
  · skip
    refine g_iconst (pc := 8) (v := 1) d_MO_isRight_8 (by decide) ?_
    refine g_goto (pc := 9) (tgt := 13) d_MO_isRight_9 (by decide) ?_
    refine g_zret (pc := 13) d_MO_isRight_13 rfl (by first | rfl | exact nar_bI _) ?_
    refine ⟨?_, rfl⟩
    first | (rw [decide_eq_false c_5]; rfl) | (rw [decide_eq_true c_5]; rfl)
set_option maxRecDepth 20000 in
theorem cm_MO_ouncesOf {E : En} {h : Hp} {m st nw sc : Nat} {c g : Nat → Int32} {B : Bu} {R : List (Nat × (Nat → Int32))} {i : Nat} (hM : MoOk h m st) (nd : (m :: st :: R.map Prod.fst).Nodup) (n6 : nw ≤ 6) (s8 : sc ≤ 8) (hi : i < sc) (hw : B.1 7 = nI nw) : CR E m_MO_ouncesOf [.ref m, .int (nI i)] (wL h ((m, c) :: (st, enc nw sc B g) :: R)) (some (.int (M_ounces (M_tot B.1 B.2.1 (B.2.2 i) nw)))) (wL h ((m, c) :: (st, enc nw sc B g) :: R)) := by
  refine ct_of rfl (by decide +kernel) (Nat.le_of_ble_eq_true rfl) ?_
  show G E m_MO_ouncesOf 0 [(0, .ref m), (1, .int (nI i))] [] (wL h ((m, c) :: (st, enc nw sc B g) :: R)) 0 0 _ noX
  obtain ⟨k_m, r_m_0, k_st, l_st⟩ := id hM
  refine g_aload_n (pc := 0) d_MO_ouncesOf_0 rfl 0 rfl ?_
  refine g_iload_n (pc := 1) d_MO_ouncesOf_1 rfl 1 rfl ?_
  refine g_cV1 (pc := 2) (ci := 7) (As := [.int _]) d_MO_ouncesOf_2 rfl mv_MO_totalOf st_MO_ouncesOf_83 rfl rfl (by decide) rfl rfl (Nat.le_of_ble_eq_true rfl) k_m (cm_MO_totalOf hM nd n6 s8 (by first | assumption | omega | decide) hw) ?_
  refine g_bipush (pc := 5) (v := 27) d_MO_ouncesOf_5 (by decide) ?_
  refine g_iadd (pc := 7) d_MO_ouncesOf_7 ?_
  refine g_bipush (pc := 8) (v := 28) d_MO_ouncesOf_8 (by decide) ?_
  refine g_idiv (pc := 10) d_MO_ouncesOf_10 (by decide) ?_
  refine g_iret (pc := 11) d_MO_ouncesOf_11 rfl ?_
  exact ⟨rfl, rfl⟩
theorem M_clip_1 {o : Int32} (h : o ≤ 500) (h2 : -500 ≤ o) : M_clip o = o := by
  have a1 := (i_le _ _).mp h
  have a2 := (i_le _ _).mp h2
  have e1 : (500 : Int32).toInt = 500 := rfl
  have e2 : (-500 : Int32).toInt = -500 := rfl
  rw [e1] at a1; rw [e2] at a2
  have r : (if o < 500 then o else 500) = o := by
    split
    · rfl
    · next z =>
      refine Int32.toInt_inj.mp ?_
      have : ¬ o.toInt < 500 := fun q => z ((i_lt _ _).mpr q)
      rw [e1]
      omega
  unfold M_clip
  rw [r]
  split
  · rfl
  · next z =>
    refine Int32.toInt_inj.mp ?_
    have : ¬ -500 < o.toInt := fun q => z ((i_lt _ _).mpr q)
    rw [e2]
    omega
theorem M_clip_2 {o : Int32} (h : ¬ o ≤ 500) : M_clip o = 500 := by
  have a1 : ¬ o.toInt ≤ 500 := fun z => h ((i_le _ _).mpr z)
  have r : (if o < 500 then o else 500) = 500 := if_neg (fun q => by have := (i_lt _ _).mp q; have e1 : (500 : Int32).toInt = 500 := rfl; rw [e1] at this; omega)
  unfold M_clip
  rw [r]
  rfl
theorem M_clip_3 {o : Int32} (h : o ≤ 500) (h2 : ¬ -500 ≤ o) : M_clip o = -500 := by
  have a2 : ¬ (-500 : Int) ≤ o.toInt := fun z => h2 ((i_le _ _).mpr z)
  have e1 : (500 : Int32).toInt = 500 := rfl
  have e2 : (-500 : Int32).toInt = -500 := rfl
  have r : (if o < 500 then o else 500) = o := if_pos ((i_lt _ _).mpr (by rw [e1]; omega))
  unfold M_clip
  rw [r]
  exact if_neg (fun q => by have := (i_lt _ _).mp q; rw [e2] at this; omega)
set_option maxRecDepth 20000 in
theorem cm_MO_driftOne {E : En} {h : Hp} {m st nw sc : Nat} {c g : Nat → Int32} {B : Bu} {R : List (Nat × (Nat → Int32))} {i : Nat} (hM : MoOk h m st) (nd : (m :: st :: R.map Prod.fst).Nodup) (n6 : nw ≤ 6) (s8 : sc ≤ 8) (hi : i < sc) : CR E m_MO_driftOne [.ref m, .int (nI i)] (wL h ((m, c) :: (st, enc nw sc B g) :: R)) (none) (wL h ((m, c) :: (st, enc nw sc (sS B i (M_drift (B.2.2 i))) g) :: R)) := by
  refine ct_of rfl (by decide +kernel) (Nat.le_of_ble_eq_true rfl) ?_
  show G E m_MO_driftOne 0 [(0, .ref m), (1, .int (nI i))] [] (wL h ((m, c) :: (st, enc nw sc B g) :: R)) 0 0 _ noX
  obtain ⟨k_m, r_m_0, k_st, l_st⟩ := id hM
  refine g_aload_n (pc := 0) d_MO_driftOne_0 rfl 0 rfl ?_
  refine g_iload_n (pc := 1) d_MO_driftOne_1 rfl 1 rfl ?_
  refine g_iconst (pc := 2) (v := 1) d_MO_driftOne_2 (by decide) ?_
  refine g_cV1 (pc := 3) (ci := 7) (As := [.int _, .int _]) d_MO_driftOne_3 rfl mv_MO_of st_MO_driftOne_69 rfl rfl (by decide) rfl rfl (Nat.le_of_ble_eq_true rfl) k_m (cm_MO_of (k := 1) hM nd n6 s8 (by first | assumption | omega | decide) (by decide)) ?_
  refine g_aload_n (pc := 6) d_MO_driftOne_6 rfl 0 rfl ?_
  refine g_iload_n (pc := 7) d_MO_driftOne_7 rfl 1 rfl ?_
  refine g_iconst (pc := 8) (v := 3) d_MO_driftOne_8 (by decide) ?_
  refine g_cV1 (pc := 9) (ci := 7) (As := [.int _, .int _]) d_MO_driftOne_9 rfl mv_MO_of st_MO_driftOne_69 rfl rfl (by decide) rfl rfl (Nat.le_of_ble_eq_true rfl) k_m (cm_MO_of (k := 3) hM nd n6 s8 (by first | assumption | omega | decide) (by decide)) ?_
  refine g_iadd (pc := 12) d_MO_driftOne_12 ?_
  refine g_istore_n (pc := 13) (lv' := [(2, .int (B.2.2 i 1 + B.2.2 i 3)), (0, .ref m), (1, .int (nI i))]) d_MO_driftOne_13 rfl (by decide) rfl ?_
  refine g_iload_n (pc := 14) d_MO_driftOne_14 rfl 0 rfl ?_
  refine g_sipush (pc := 15) (v := 500) d_MO_driftOne_15 (by decide) ?_
  refine g_icmp_le (pc := 18) (tgt := 25) d_MO_driftOne_18 (by decide) (fun c_18 => ?_) (fun c_18 => ?_)
  · skip
    refine g_iload_n (pc := 25) d_MO_driftOne_25 rfl 0 rfl ?_
    refine g_sipush (pc := 26) (v := (-500)) d_MO_driftOne_26 (by decide) ?_
    refine g_icmp_ge (pc := 29) (tgt := 36) d_MO_driftOne_29 (by decide) (fun c_29 => ?_) (fun c_29 => ?_)
    · skip
      refine g_aload_n (pc := 36) d_MO_driftOne_36 rfl 1 rfl ?_
      refine g_iload_n (pc := 37) d_MO_driftOne_37 rfl 2 rfl ?_
      refine g_iconst (pc := 38) (v := 1) d_MO_driftOne_38 (by decide) ?_
      refine g_iload_n (pc := 39) d_MO_driftOne_39 rfl 0 rfl ?_
      refine g_cV0 (pc := 40) (ci := 7) (As := [.int _, .int _, .int _]) d_MO_driftOne_40 rfl mv_MO_put st_MO_driftOne_65 rfl rfl (by decide) rfl rfl (Nat.le_of_ble_eq_true rfl) k_m (cm_MO_put (k := 1) hM nd n6 s8 (by first | assumption | omega | decide) (by decide)) ?_
      refine g_vret (pc := 43) d_MO_driftOne_43 rfl ?_
      refine ⟨rfl, ?_⟩
      unfold M_drift
      first | (rw [M_clip_1 c_18 c_29]; done) | (rw [M_clip_2 c_18]; done) | (rw [M_clip_3 c_18 c_29]; done) | exact absurd (show (-500 : Int32) ≤ 500 by decide) c_29
    · skip
      refine g_sipush (pc := 32) (v := (-500)) d_MO_driftOne_32 (by decide) ?_
      refine g_istore_n (pc := 35) (lv' := [(2, .int (-500)), (0, .ref m), (1, .int (nI i))]) d_MO_driftOne_35 rfl (by decide) rfl ?_
      refine g_aload_n (pc := 36) d_MO_driftOne_36 rfl 1 rfl ?_
      refine g_iload_n (pc := 37) d_MO_driftOne_37 rfl 2 rfl ?_
      refine g_iconst (pc := 38) (v := 1) d_MO_driftOne_38 (by decide) ?_
      refine g_iload_n (pc := 39) d_MO_driftOne_39 rfl 0 rfl ?_
      refine g_cV0 (pc := 40) (ci := 7) (As := [.int _, .int _, .int _]) d_MO_driftOne_40 rfl mv_MO_put st_MO_driftOne_65 rfl rfl (by decide) rfl rfl (Nat.le_of_ble_eq_true rfl) k_m (cm_MO_put (k := 1) hM nd n6 s8 (by first | assumption | omega | decide) (by decide)) ?_
      refine g_vret (pc := 43) d_MO_driftOne_43 rfl ?_
      refine ⟨rfl, ?_⟩
      unfold M_drift
      first | (rw [M_clip_1 c_18 c_29]; done) | (rw [M_clip_2 c_18]; done) | (rw [M_clip_3 c_18 c_29]; done) | exact absurd (show (-500 : Int32) ≤ 500 by decide) c_29
  · skip
    refine g_sipush (pc := 21) (v := 500) d_MO_driftOne_21 (by decide) ?_
    refine g_istore_n (pc := 24) (lv' := [(2, .int 500), (0, .ref m), (1, .int (nI i))]) d_MO_driftOne_24 rfl (by decide) rfl ?_
    refine g_iload_n (pc := 25) d_MO_driftOne_25 rfl 0 rfl ?_
    refine g_sipush (pc := 26) (v := (-500)) d_MO_driftOne_26 (by decide) ?_
    refine g_icmp_ge (pc := 29) (tgt := 36) d_MO_driftOne_29 (by decide) (fun c_29 => ?_) (fun c_29 => ?_)
    · skip
      refine g_aload_n (pc := 36) d_MO_driftOne_36 rfl 1 rfl ?_
      refine g_iload_n (pc := 37) d_MO_driftOne_37 rfl 2 rfl ?_
      refine g_iconst (pc := 38) (v := 1) d_MO_driftOne_38 (by decide) ?_
      refine g_iload_n (pc := 39) d_MO_driftOne_39 rfl 0 rfl ?_
      refine g_cV0 (pc := 40) (ci := 7) (As := [.int _, .int _, .int _]) d_MO_driftOne_40 rfl mv_MO_put st_MO_driftOne_65 rfl rfl (by decide) rfl rfl (Nat.le_of_ble_eq_true rfl) k_m (cm_MO_put (k := 1) hM nd n6 s8 (by first | assumption | omega | decide) (by decide)) ?_
      refine g_vret (pc := 43) d_MO_driftOne_43 rfl ?_
      refine ⟨rfl, ?_⟩
      unfold M_drift
      first | (rw [M_clip_1 c_18 c_29]; done) | (rw [M_clip_2 c_18]; done) | (rw [M_clip_3 c_18 c_29]; done) | exact absurd (show (-500 : Int32) ≤ 500 by decide) c_29
    · skip
      refine g_sipush (pc := 32) (v := (-500)) d_MO_driftOne_32 (by decide) ?_
      refine g_istore_n (pc := 35) (lv' := [(2, .int (-500)), (0, .ref m), (1, .int (nI i))]) d_MO_driftOne_35 rfl (by decide) rfl ?_
      refine g_aload_n (pc := 36) d_MO_driftOne_36 rfl 1 rfl ?_
      refine g_iload_n (pc := 37) d_MO_driftOne_37 rfl 2 rfl ?_
      refine g_iconst (pc := 38) (v := 1) d_MO_driftOne_38 (by decide) ?_
      refine g_iload_n (pc := 39) d_MO_driftOne_39 rfl 0 rfl ?_
      refine g_cV0 (pc := 40) (ci := 7) (As := [.int _, .int _, .int _]) d_MO_driftOne_40 rfl mv_MO_put st_MO_driftOne_65 rfl rfl (by decide) rfl rfl (Nat.le_of_ble_eq_true rfl) k_m (cm_MO_put (k := 1) hM nd n6 s8 (by first | assumption | omega | decide) (by decide)) ?_
      refine g_vret (pc := 43) d_MO_driftOne_43 rfl ?_
      refine ⟨rfl, ?_⟩
      unfold M_drift
      first | (rw [M_clip_1 c_18 c_29]; done) | (rw [M_clip_2 c_18]; done) | (rw [M_clip_3 c_18 c_29]; done) | exact absurd (show (-500 : Int32) ≤ 500 by decide) c_29
set_option maxRecDepth 20000 in
theorem cm_MO_isValid {E : En} {h : Hp} {m st nw sc : Nat} {c g : Nat → Int32} {B : Bu} {R : List (Nat × (Nat → Int32))} {i : Nat} (hM : MoOk h m st) (nd : (m :: st :: R.map Prod.fst).Nodup) (n6 : nw ≤ 6) (s8 : sc ≤ 8) (hi : i < sc) : CR E m_MO_isValid [.ref m, .int (nI i)] (wL h ((m, c) :: (st, enc nw sc B g) :: R)) (some (.int (bI (M_stamped (B.2.2 i) (B.1 9))))) (wL h ((m, c) :: (st, enc nw sc B g) :: R)) := by
  refine ct_of rfl (by decide +kernel) (Nat.le_of_ble_eq_true rfl) ?_
  show G E m_MO_isValid 0 [(0, .ref m), (1, .int (nI i))] [] (wL h ((m, c) :: (st, enc nw sc B g) :: R)) 0 0 _ noX
  obtain ⟨k_m, r_m_0, k_st, l_st⟩ := id hM
  refine g_aload_n (pc := 0) d_MO_isValid_0 rfl 0 rfl ?_
  refine g_iload_n (pc := 1) d_MO_isValid_1 rfl 1 rfl ?_
  refine g_bipush (pc := 2) (v := 11) d_MO_isValid_2 (by decide) ?_
  refine g_cV1 (pc := 4) (ci := 7) (As := [.int _, .int _]) d_MO_isValid_4 rfl mv_MO_of st_MO_isValid_69 rfl rfl (by decide) rfl rfl (Nat.le_of_ble_eq_true rfl) k_m (cm_MO_of (k := 11) hM nd n6 s8 (by first | assumption | omega | decide) (by decide)) ?_
  refine g_aload_n (pc := 7) d_MO_isValid_7 rfl 0 rfl ?_
  refine g_getR (pc := 8) (ci := 7) (f := 0) (b := st) rfl r_m_0 d_MO_isValid_8 fl_MO_7 (by decide) k_m ?_
  refine g_bipush (pc := 11) (v := 9) d_MO_isValid_11 (by decide) ?_
  refine g_mI (pc := 13) (k := 9) d_MO_isValid_13 k_st l_st (by decide) nd ?_
  refine g_icmp_lt (pc := 14) (tgt := 21) d_MO_isValid_14 (by decide) (fun c_14 => ?_) (fun c_14 => ?_)
  · skip
    refine g_iconst (pc := 21) (v := 0) d_MO_isValid_21 (by decide) ?_
    refine g_zret (pc := 22) d_MO_isValid_22 rfl (by first | rfl | exact nar_bI _) ?_
    refine ⟨?_, rfl⟩
    unfold M_stamped
    first | (rw [decide_eq_true (Int32.not_lt.mp c_14)]; rfl) | (rw [decide_eq_false (Int32.not_le.mpr c_14)]; rfl)
  · skip
    refine g_iconst (pc := 17) (v := 1) d_MO_isValid_17 (by decide) ?_
    refine g_goto (pc := 18) (tgt := 22) d_MO_isValid_18 (by decide) ?_
    refine g_zret (pc := 22) d_MO_isValid_22 rfl (by first | rfl | exact nar_bI _) ?_
    refine ⟨?_, rfl⟩
    unfold M_stamped
    first | (rw [decide_eq_true (Int32.not_lt.mp c_14)]; rfl) | (rw [decide_eq_false (Int32.not_le.mpr c_14)]; rfl)
set_option maxRecDepth 20000 in
theorem cm_MO_usesOn {E : En} {h : Hp} {m st nw sc : Nat} {c g : Nat → Int32} {B : Bu} {R : List (Nat × (Nat → Int32))} {i : Nat} {v : Int32} (hM : MoOk h m st) (nd : (m :: st :: R.map Prod.fst).Nodup) (n6 : nw ≤ 6) (s8 : sc ≤ 8) (hi : i < sc) : CR E m_MO_usesOn [.ref m, .int (nI i), .int v] (wL h ((m, c) :: (st, enc nw sc B g) :: R)) (some (.int (bI (M_uses (B.2.2 i) v)))) (wL h ((m, c) :: (st, enc nw sc B g) :: R)) := by
  refine ct_of rfl (by decide +kernel) (Nat.le_of_ble_eq_true rfl) ?_
  show G E m_MO_usesOn 0 [(0, .ref m), (1, .int (nI i)), (2, .int v)] [] (wL h ((m, c) :: (st, enc nw sc B g) :: R)) 0 0 _ noX
  obtain ⟨k_m, r_m_0, k_st, l_st⟩ := id hM
  refine g_aload_n (pc := 0) d_MO_usesOn_0 rfl 0 rfl ?_
  refine g_iload_n (pc := 1) d_MO_usesOn_1 rfl 1 rfl ?_
  refine g_bipush (pc := 2) (v := 10) d_MO_usesOn_2 (by decide) ?_
  refine g_cV1 (pc := 4) (ci := 7) (As := [.int _, .int _]) d_MO_usesOn_4 rfl mv_MO_of st_MO_usesOn_69 rfl rfl (by decide) rfl rfl (Nat.le_of_ble_eq_true rfl) k_m (cm_MO_of (k := 10) hM nd n6 s8 (by first | assumption | omega | decide) (by decide)) ?_
  refine g_iconst (pc := 7) (v := (-1)) d_MO_usesOn_7 (by decide) ?_
  refine g_icmp_eq (pc := 8) (tgt := 30) d_MO_usesOn_8 (by decide) (fun c_8 => ?_) (fun c_8 => ?_)
  · skip
    refine g_iconst (pc := 30) (v := 1) d_MO_usesOn_30 (by decide) ?_
    refine g_goto (pc := 31) (tgt := 35) d_MO_usesOn_31 (by decide) ?_
    refine g_zret (pc := 35) d_MO_usesOn_35 rfl (by first | rfl | exact nar_bI _) ?_
    refine ⟨?_, rfl⟩
    unfold M_uses
    first | (rw [decide_eq_true c_8]; rfl) | (rw [decide_eq_false c_8]; first | (rw [decide_eq_true (Int32.not_le.mp c_27)]; rfl) | (rw [decide_eq_false (Int32.not_lt.mpr c_27)]; rfl))
  · skip
    refine g_iload_n (pc := 11) d_MO_usesOn_11 rfl 2 rfl ?_
    refine g_aload_n (pc := 12) d_MO_usesOn_12 rfl 0 rfl ?_
    refine g_iload_n (pc := 13) d_MO_usesOn_13 rfl 1 rfl ?_
    refine g_bipush (pc := 14) (v := 10) d_MO_usesOn_14 (by decide) ?_
    refine g_cV1 (pc := 16) (ci := 7) (As := [.int _, .int _]) d_MO_usesOn_16 rfl mv_MO_of st_MO_usesOn_69 rfl rfl (by decide) rfl rfl (Nat.le_of_ble_eq_true rfl) k_m (cm_MO_of (k := 10) hM nd n6 s8 (by first | assumption | omega | decide) (by decide)) ?_
    refine g_isub (pc := 19) d_MO_usesOn_19 ?_
    refine g_aload_n (pc := 20) d_MO_usesOn_20 rfl 0 rfl ?_
    refine g_iload_n (pc := 21) d_MO_usesOn_21 rfl 1 rfl ?_
    refine g_bipush (pc := 22) (v := 7) d_MO_usesOn_22 (by decide) ?_
    refine g_cV1 (pc := 24) (ci := 7) (As := [.int _, .int _]) d_MO_usesOn_24 rfl mv_MO_of st_MO_usesOn_69 rfl rfl (by decide) rfl rfl (Nat.le_of_ble_eq_true rfl) k_m (cm_MO_of (k := 7) hM nd n6 s8 (by first | assumption | omega | decide) (by decide)) ?_
    refine g_icmp_le (pc := 27) (tgt := 34) d_MO_usesOn_27 (by decide) (fun c_27 => ?_) (fun c_27 => ?_)
    · skip
      refine g_iconst (pc := 34) (v := 0) d_MO_usesOn_34 (by decide) ?_
      refine g_zret (pc := 35) d_MO_usesOn_35 rfl (by first | rfl | exact nar_bI _) ?_
      refine ⟨?_, rfl⟩
      unfold M_uses
      first | (rw [decide_eq_true c_8]; rfl) | (rw [decide_eq_false c_8]; first | (rw [decide_eq_true (Int32.not_le.mp c_27)]; rfl) | (rw [decide_eq_false (Int32.not_lt.mpr c_27)]; rfl))
    · skip
      refine g_iconst (pc := 30) (v := 1) d_MO_usesOn_30 (by decide) ?_
      refine g_goto (pc := 31) (tgt := 35) d_MO_usesOn_31 (by decide) ?_
      refine g_zret (pc := 35) d_MO_usesOn_35 rfl (by first | rfl | exact nar_bI _) ?_
      refine ⟨?_, rfl⟩
      unfold M_uses
      first | (rw [decide_eq_true c_8]; rfl) | (rw [decide_eq_false c_8]; first | (rw [decide_eq_true (Int32.not_le.mp c_27)]; rfl) | (rw [decide_eq_false (Int32.not_lt.mpr c_27)]; rfl))
set_option maxRecDepth 20000 in
theorem cm_MO_falseGrams {E : En} {h : Hp} {m st nw sc : Nat} {c g : Nat → Int32} {B : Bu} {R : List (Nat × (Nat → Int32))} {i : Nat} (hM : MoOk h m st) (nd : (m :: st :: R.map Prod.fst).Nodup) (n6 : nw ≤ 6) (s8 : sc ≤ 8) (hi : i < sc) : CR E m_MO_falseGrams [.ref m, .int (nI i)] (wL h ((m, c) :: (st, enc nw sc B g) :: R)) (some (.int (M_false (B.2.2 i) (B.1 9)))) (wL h ((m, c) :: (st, enc nw sc B g) :: R)) := by
  refine ct_of rfl (by decide +kernel) (Nat.le_of_ble_eq_true rfl) ?_
  show G E m_MO_falseGrams 0 [(0, .ref m), (1, .int (nI i))] [] (wL h ((m, c) :: (st, enc nw sc B g) :: R)) 0 0 _ noX
  obtain ⟨k_m, r_m_0, k_st, l_st⟩ := id hM
  refine g_aload_n (pc := 0) d_MO_falseGrams_0 rfl 0 rfl ?_
  refine g_iload_n (pc := 1) d_MO_falseGrams_1 rfl 1 rfl ?_
  refine g_aload_n (pc := 2) d_MO_falseGrams_2 rfl 0 rfl ?_
  refine g_iload_n (pc := 3) d_MO_falseGrams_3 rfl 1 rfl ?_
  refine g_iconst (pc := 4) (v := 4) d_MO_falseGrams_4 (by decide) ?_
  refine g_cV1 (pc := 5) (ci := 7) (As := [.int _, .int _]) d_MO_falseGrams_5 rfl mv_MO_of st_MO_falseGrams_69 rfl rfl (by decide) rfl rfl (Nat.le_of_ble_eq_true rfl) k_m (cm_MO_of (k := 4) hM nd n6 s8 (by first | assumption | omega | decide) (by decide)) ?_
  refine g_cV1 (pc := 8) (ci := 7) (As := [.int _, .int _]) d_MO_falseGrams_8 rfl mv_MO_errorFor st_MO_falseGrams_73 rfl rfl (by decide) rfl rfl (Nat.le_of_ble_eq_true rfl) k_m (cm_MO_errorFor hM nd n6 s8 (by first | assumption | omega | decide)) ?_
  refine g_istore_n (pc := 11) (lv' := [(2, .int (M_err (B.2.2 i) (B.2.2 i 4))), (0, .ref m), (1, .int (nI i))]) d_MO_falseGrams_11 rfl (by decide) rfl ?_
  refine g_aload_n (pc := 12) d_MO_falseGrams_12 rfl 1 rfl ?_
  refine g_iload_n (pc := 13) d_MO_falseGrams_13 rfl 2 rfl ?_
  refine g_aload_n (pc := 14) d_MO_falseGrams_14 rfl 1 rfl ?_
  refine g_getR (pc := 15) (ci := 7) (f := 0) (b := st) rfl r_m_0 d_MO_falseGrams_15 fl_MO_7 (by decide) k_m ?_
  refine g_bipush (pc := 18) (v := 9) d_MO_falseGrams_18 (by decide) ?_
  refine g_mI (pc := 20) (k := 9) d_MO_falseGrams_20 k_st l_st (by decide) nd ?_
  refine g_cV1 (pc := 21) (ci := 7) (As := [.int _, .int _]) d_MO_falseGrams_21 rfl mv_MO_usesOn st_MO_falseGrams_86 rfl rfl (by decide) rfl rfl (Nat.le_of_ble_eq_true rfl) k_m (cm_MO_usesOn hM nd n6 s8 (by first | assumption | omega | decide)) ?_
  refine g_if_eq (pc := 24) (tgt := 39) d_MO_falseGrams_24 (by decide) (fun c_24 => ?_) (fun c_24 => ?_)
  · skip
    refine g_iload_n (pc := 39) d_MO_falseGrams_39 rfl 0 rfl ?_
    refine g_iret (pc := 40) d_MO_falseGrams_40 rfl ?_
    refine ⟨congrArg (fun q => some (Value.int q)) ?_, rfl⟩
    unfold M_false
    first | (rw [if_pos (bI_n0 c_24)]; done) | (rw [if_neg (by rw [bI_0.mp c_24]; decide), Int32.add_zero])
  · skip
    refine g_iload_n (pc := 27) d_MO_falseGrams_27 rfl 0 rfl ?_
    refine g_aload_n (pc := 28) d_MO_falseGrams_28 rfl 1 rfl ?_
    refine g_iload_n (pc := 29) d_MO_falseGrams_29 rfl 2 rfl ?_
    refine g_bipush (pc := 30) (v := 6) d_MO_falseGrams_30 (by decide) ?_
    refine g_cV1 (pc := 32) (ci := 7) (As := [.int _, .int _]) d_MO_falseGrams_32 rfl mv_MO_of st_MO_falseGrams_69 rfl rfl (by decide) rfl rfl (Nat.le_of_ble_eq_true rfl) k_m (cm_MO_of (k := 6) hM nd n6 s8 (by first | assumption | omega | decide) (by decide)) ?_
    refine g_iadd (pc := 35) d_MO_falseGrams_35 ?_
    refine g_goto (pc := 36) (tgt := 40) d_MO_falseGrams_36 (by decide) ?_
    refine g_iret (pc := 40) d_MO_falseGrams_40 rfl ?_
    refine ⟨congrArg (fun q => some (Value.int q)) ?_, rfl⟩
    unfold M_false
    first | (rw [if_pos (bI_n0 c_24)]; done) | (rw [if_neg (by rw [bI_0.mp c_24]; decide), Int32.add_zero])
set_option maxRecDepth 20000 in
theorem cm_MO_gainNow {E : En} {h : Hp} {m st nw sc : Nat} {c g : Nat → Int32} {B : Bu} {R : List (Nat × (Nat → Int32))} {i : Nat} (hM : MoOk h m st) (nd : (m :: st :: R.map Prod.fst).Nodup) (n6 : nw ≤ 6) (s8 : sc ≤ 8) (hi : i < sc) : CR E m_MO_gainNow [.ref m, .int (nI i)] (wL h ((m, c) :: (st, enc nw sc B g) :: R)) (some (.int (M_gain B.1 (B.2.2 i) (M_false (B.2.2 i) (B.1 9))))) (wL h ((m, c) :: (st, enc nw sc B g) :: R)) := by
  refine ct_of rfl (by decide +kernel) (Nat.le_of_ble_eq_true rfl) ?_
  show G E m_MO_gainNow 0 [(0, .ref m), (1, .int (nI i))] [] (wL h ((m, c) :: (st, enc nw sc B g) :: R)) 0 0 _ noX
  obtain ⟨k_m, r_m_0, k_st, l_st⟩ := id hM
  refine g_aload_n (pc := 0) d_MO_gainNow_0 rfl 0 rfl ?_
  refine g_iload_n (pc := 1) d_MO_gainNow_1 rfl 1 rfl ?_
  refine g_iconst (pc := 2) (v := 5) d_MO_gainNow_2 (by decide) ?_
  refine g_cV1 (pc := 3) (ci := 7) (As := [.int _, .int _]) d_MO_gainNow_3 rfl mv_MO_of st_MO_gainNow_69 rfl rfl (by decide) rfl rfl (Nat.le_of_ble_eq_true rfl) k_m (cm_MO_of (k := 5) hM nd n6 s8 (by first | assumption | omega | decide) (by decide)) ?_
  refine g_aload_n (pc := 6) d_MO_gainNow_6 rfl 0 rfl ?_
  refine g_iload_n (pc := 7) d_MO_gainNow_7 rfl 1 rfl ?_
  refine g_cV1 (pc := 8) (ci := 7) (As := [.int _]) d_MO_gainNow_8 rfl mv_MO_falseGrams st_MO_gainNow_90 rfl rfl (by decide) rfl rfl (Nat.le_of_ble_eq_true rfl) k_m (cm_MO_falseGrams hM nd n6 s8 (by first | assumption | omega | decide)) ?_
  refine g_imul (pc := 11) d_MO_gainNow_11 ?_
  refine g_aload_n (pc := 12) d_MO_gainNow_12 rfl 0 rfl ?_
  refine g_getR (pc := 13) (ci := 7) (f := 0) (b := st) rfl r_m_0 d_MO_gainNow_13 fl_MO_7 (by decide) k_m ?_
  refine g_iconst (pc := 16) (v := 4) d_MO_gainNow_16 (by decide) ?_
  refine g_mI (pc := 17) (k := 4) d_MO_gainNow_17 k_st l_st (by decide) nd ?_
  refine g_imul (pc := 18) d_MO_gainNow_18 ?_
  refine g_sipush (pc := 19) (v := 1000) d_MO_gainNow_19 (by decide) ?_
  refine g_idiv (pc := 22) d_MO_gainNow_22 (by decide) ?_
  refine g_iret (pc := 23) d_MO_gainNow_23 rfl ?_
  exact ⟨rfl, rfl⟩
set_option maxRecDepth 20000 in
theorem cm_MO_sell {E : En} {h : Hp} {m st nw sc : Nat} {c g : Nat → Int32} {B : Bu} {R : List (Nat × (Nat → Int32))} {i : Nat} (hM : MoOk h m st) (nd : (m :: st :: R.map Prod.fst).Nodup) (n6 : nw ≤ 6) (s8 : sc ≤ 8) (hi : i < sc) : CR E m_MO_sell [.ref m, .int (nI i)] (wL h ((m, c) :: (st, enc nw sc B g) :: R)) (none) (wL h ((m, c) :: (st, enc nw sc (sS B i (M_sell B.1 (B.2.2 i))) g) :: R)) := by
  refine ct_of rfl (by decide +kernel) (Nat.le_of_ble_eq_true rfl) ?_
  show G E m_MO_sell 0 [(0, .ref m), (1, .int (nI i))] [] (wL h ((m, c) :: (st, enc nw sc B g) :: R)) 0 0 _ noX
  obtain ⟨k_m, r_m_0, k_st, l_st⟩ := id hM
  refine g_aload_n (pc := 0) d_MO_sell_0 rfl 0 rfl ?_
  refine g_iload_n (pc := 1) d_MO_sell_1 rfl 1 rfl ?_
  refine g_cV1 (pc := 2) (ci := 7) (As := [.int _]) d_MO_sell_2 rfl mv_MO_gainNow st_MO_sell_93 rfl rfl (by decide) rfl rfl (Nat.le_of_ble_eq_true rfl) k_m (cm_MO_gainNow hM nd n6 s8 (by first | assumption | omega | decide)) ?_
  refine g_istore_n (pc := 5) (lv' := [(2, .int (M_gain B.1 (B.2.2 i) (M_false (B.2.2 i) (B.1 9)))), (0, .ref m), (1, .int (nI i))]) d_MO_sell_5 rfl (by decide) rfl ?_
  refine g_aload_n (pc := 6) d_MO_sell_6 rfl 1 rfl ?_
  refine g_iload_n (pc := 7) d_MO_sell_7 rfl 2 rfl ?_
  refine g_iconst (pc := 8) (v := 0) d_MO_sell_8 (by decide) ?_
  refine g_iload_n (pc := 9) d_MO_sell_9 rfl 0 rfl ?_
  refine g_cV0 (pc := 10) (ci := 7) (As := [.int _, .int _, .int _]) d_MO_sell_10 rfl mv_MO_addTo st_MO_sell_96 rfl rfl (by decide) rfl rfl (Nat.le_of_ble_eq_true rfl) k_m (cm_MO_addTo (k := 0) hM nd n6 s8 (by first | assumption | omega | decide) (by decide)) ?_
  refine g_aload_n (pc := 13) d_MO_sell_13 rfl 1 rfl ?_
  refine g_iload_n (pc := 14) d_MO_sell_14 rfl 2 rfl ?_
  refine g_bipush (pc := 15) (v := 14) d_MO_sell_15 (by decide) ?_
  refine g_iload_n (pc := 17) d_MO_sell_17 rfl 0 rfl ?_
  refine g_cV0 (pc := 18) (ci := 7) (As := [.int _, .int _, .int _]) d_MO_sell_18 rfl mv_MO_addTo st_MO_sell_96 rfl rfl (by decide) rfl rfl (Nat.le_of_ble_eq_true rfl) k_m (cm_MO_addTo (k := 14) hM nd n6 s8 (by first | assumption | omega | decide) (by decide)) ?_
  refine g_h (h' := wL h ((m, c) :: (st, enc nw sc (sS B i (u1 (u1 (B.2.2 i) 0 (B.2.2 i 0 + M_gain B.1 (B.2.2 i) (M_false (B.2.2 i) (B.1 9)))) 14 (B.2.2 i 14 + M_gain B.1 (B.2.2 i) (M_false (B.2.2 i) (B.1 9))))) g) :: R)) (by simp only [sS_sS, sS_sC, sC_sC, sS_i, sS_1, sS_21, sC_1, sC_2]; rfl) ?_
  refine g_aload_n (pc := 21) d_MO_sell_21 rfl 1 rfl ?_
  refine g_iload_n (pc := 22) d_MO_sell_22 rfl 2 rfl ?_
  refine g_iconst (pc := 23) (v := 5) d_MO_sell_23 (by decide) ?_
  refine g_cV1 (pc := 24) (ci := 7) (As := [.int _, .int _]) d_MO_sell_24 rfl mv_MO_of st_MO_sell_69 rfl rfl (by decide) rfl rfl (Nat.le_of_ble_eq_true rfl) k_m (cm_MO_of (k := 5) hM nd n6 s8 (by first | assumption | omega | decide) (by decide)) ?_
  refine g_if_le (pc := 27) (tgt := 55) d_MO_sell_27 (by decide) (fun c_27 => ?_) (fun c_27 => ?_)
  · skip
    refine g_vret (pc := 55) d_MO_sell_55 rfl ?_
    refine ⟨rfl, ?_⟩
    simp only [sS_sS, sS_sC, sC_sC, sS_i, sS_1, sS_21, sC_1, sC_2] at *
    unfold M_sell
    dsimp only
    have e1 : (u1 (u1 (B.2.2 i) 0 (B.2.2 i 0 + M_gain B.1 (B.2.2 i) (M_false (B.2.2 i) (B.1 9)))) 14 (B.2.2 i 14 + M_gain B.1 (B.2.2 i) (M_false (B.2.2 i) (B.1 9)))) 5 = B.2.2 i 5 := rfl
    have e2 : M_false (u1 (u1 (B.2.2 i) 0 (B.2.2 i 0 + M_gain B.1 (B.2.2 i) (M_false (B.2.2 i) (B.1 9)))) 14 (B.2.2 i 14 + M_gain B.1 (B.2.2 i) (M_false (B.2.2 i) (B.1 9)))) (B.1 9) = M_false (B.2.2 i) (B.1 9) := rfl
    have e3 : (u1 (u1 (B.2.2 i) 0 (B.2.2 i 0 + M_gain B.1 (B.2.2 i) (M_false (B.2.2 i) (B.1 9)))) 14 (B.2.2 i 14 + M_gain B.1 (B.2.2 i) (M_false (B.2.2 i) (B.1 9)))) 4 = B.2.2 i 4 := rfl
    simp only [e1, e2, e3] at *
    first | (rw [if_pos ⟨Int32.not_le.mp c_27, Int32.not_le.mp c_44⟩]; rfl) | (rw [if_neg (fun z => absurd z.1 (Int32.not_lt.mpr c_27))]; done) | (rw [if_neg (fun z => absurd z.2 (Int32.not_lt.mpr c_44))]; done)
  · skip
    refine g_aload_n (pc := 30) d_MO_sell_30 rfl 1 rfl ?_
    refine g_iload_n (pc := 31) d_MO_sell_31 rfl 2 rfl ?_
    refine g_cV1 (pc := 32) (ci := 7) (As := [.int _]) d_MO_sell_32 rfl mv_MO_falseGrams st_MO_sell_90 rfl rfl (by decide) rfl rfl (Nat.le_of_ble_eq_true rfl) k_m (cm_MO_falseGrams hM nd n6 s8 (by first | assumption | omega | decide)) ?_
    refine g_aload_n (pc := 35) d_MO_sell_35 rfl 1 rfl ?_
    refine g_iload_n (pc := 36) d_MO_sell_36 rfl 2 rfl ?_
    refine g_iconst (pc := 37) (v := 4) d_MO_sell_37 (by decide) ?_
    refine g_cV1 (pc := 38) (ci := 7) (As := [.int _, .int _]) d_MO_sell_38 rfl mv_MO_of st_MO_sell_69 rfl rfl (by decide) rfl rfl (Nat.le_of_ble_eq_true rfl) k_m (cm_MO_of (k := 4) hM nd n6 s8 (by first | assumption | omega | decide) (by decide)) ?_
    refine g_bipush (pc := 41) (v := 20) d_MO_sell_41 (by decide) ?_
    refine g_idiv (pc := 43) d_MO_sell_43 (by decide) ?_
    refine g_icmp_le (pc := 44) (tgt := 55) d_MO_sell_44 (by decide) (fun c_44 => ?_) (fun c_44 => ?_)
    · skip
      refine g_vret (pc := 55) d_MO_sell_55 rfl ?_
      refine ⟨rfl, ?_⟩
      simp only [sS_sS, sS_sC, sC_sC, sS_i, sS_1, sS_21, sC_1, sC_2] at *
      unfold M_sell
      dsimp only
      have e1 : (u1 (u1 (B.2.2 i) 0 (B.2.2 i 0 + M_gain B.1 (B.2.2 i) (M_false (B.2.2 i) (B.1 9)))) 14 (B.2.2 i 14 + M_gain B.1 (B.2.2 i) (M_false (B.2.2 i) (B.1 9)))) 5 = B.2.2 i 5 := rfl
      have e2 : M_false (u1 (u1 (B.2.2 i) 0 (B.2.2 i 0 + M_gain B.1 (B.2.2 i) (M_false (B.2.2 i) (B.1 9)))) 14 (B.2.2 i 14 + M_gain B.1 (B.2.2 i) (M_false (B.2.2 i) (B.1 9)))) (B.1 9) = M_false (B.2.2 i) (B.1 9) := rfl
      have e3 : (u1 (u1 (B.2.2 i) 0 (B.2.2 i 0 + M_gain B.1 (B.2.2 i) (M_false (B.2.2 i) (B.1 9)))) 14 (B.2.2 i 14 + M_gain B.1 (B.2.2 i) (M_false (B.2.2 i) (B.1 9)))) 4 = B.2.2 i 4 := rfl
      simp only [e1, e2, e3] at *
      first | (rw [if_pos ⟨Int32.not_le.mp c_27, Int32.not_le.mp c_44⟩]; rfl) | (rw [if_neg (fun z => absurd z.1 (Int32.not_lt.mpr c_27))]; done) | (rw [if_neg (fun z => absurd z.2 (Int32.not_lt.mpr c_44))]; done)
    · skip
      refine g_aload_n (pc := 47) d_MO_sell_47 rfl 1 rfl ?_
      refine g_iload_n (pc := 48) d_MO_sell_48 rfl 2 rfl ?_
      refine g_bipush (pc := 49) (v := 8) d_MO_sell_49 (by decide) ?_
      refine g_iconst (pc := 51) (v := 1) d_MO_sell_51 (by decide) ?_
      refine g_cV0 (pc := 52) (ci := 7) (As := [.int _, .int _, .int _]) d_MO_sell_52 rfl mv_MO_addTo st_MO_sell_96 rfl rfl (by decide) rfl rfl (Nat.le_of_ble_eq_true rfl) k_m (cm_MO_addTo (k := 8) hM nd n6 s8 (by first | assumption | omega | decide) (by decide)) ?_
      refine g_vret (pc := 55) d_MO_sell_55 rfl ?_
      refine ⟨rfl, ?_⟩
      simp only [sS_sS, sS_sC, sC_sC, sS_i, sS_1, sS_21, sC_1, sC_2] at *
      unfold M_sell
      dsimp only
      have e1 : (u1 (u1 (B.2.2 i) 0 (B.2.2 i 0 + M_gain B.1 (B.2.2 i) (M_false (B.2.2 i) (B.1 9)))) 14 (B.2.2 i 14 + M_gain B.1 (B.2.2 i) (M_false (B.2.2 i) (B.1 9)))) 5 = B.2.2 i 5 := rfl
      have e2 : M_false (u1 (u1 (B.2.2 i) 0 (B.2.2 i 0 + M_gain B.1 (B.2.2 i) (M_false (B.2.2 i) (B.1 9)))) 14 (B.2.2 i 14 + M_gain B.1 (B.2.2 i) (M_false (B.2.2 i) (B.1 9)))) (B.1 9) = M_false (B.2.2 i) (B.1 9) := rfl
      have e3 : (u1 (u1 (B.2.2 i) 0 (B.2.2 i 0 + M_gain B.1 (B.2.2 i) (M_false (B.2.2 i) (B.1 9)))) 14 (B.2.2 i 14 + M_gain B.1 (B.2.2 i) (M_false (B.2.2 i) (B.1 9)))) 4 = B.2.2 i 4 := rfl
      simp only [e1, e2, e3] at *
      first | (rw [if_pos ⟨Int32.not_le.mp c_27, Int32.not_le.mp c_44⟩]; rfl) | (rw [if_neg (fun z => absurd z.1 (Int32.not_lt.mpr c_27))]; done) | (rw [if_neg (fun z => absurd z.2 (Int32.not_lt.mpr c_44))]; done)
def M_why (t : Int32) (z : Bool) : Int32 := (if t = 0 then 0 else 1) + (if z = true then 0 else 2)
set_option maxRecDepth 20000 in
theorem cm_MO_failReason {E : En} {h : Hp} {m st nw sc : Nat} {c g : Nat → Int32} {B : Bu} {R : List (Nat × (Nat → Int32))} {i : Nat} (hM : MoOk h m st) (nd : (m :: st :: R.map Prod.fst).Nodup) (n6 : nw ≤ 6) (s8 : sc ≤ 8) (hi : i < sc) (hw : B.1 7 = nI nw) : CR E m_MO_failReason [.ref m, .int (nI i)] (wL h ((m, c) :: (st, enc nw sc B g) :: R)) (some (.int (M_why (M_tot B.1 B.2.1 (B.2.2 i) nw) (M_stamped (B.2.2 i) (B.1 9))))) (wL h ((m, c) :: (st, enc nw sc B g) :: R)) := by
  refine ct_of rfl (by decide +kernel) (Nat.le_of_ble_eq_true rfl) ?_
  show G E m_MO_failReason 0 [(0, .ref m), (1, .int (nI i))] [] (wL h ((m, c) :: (st, enc nw sc B g) :: R)) 0 0 _ noX
  obtain ⟨k_m, r_m_0, k_st, l_st⟩ := id hM
  refine g_aload_n (pc := 0) d_MO_failReason_0 rfl 0 rfl ?_
  refine g_iload_n (pc := 1) d_MO_failReason_1 rfl 1 rfl ?_
  refine g_cV1 (pc := 2) (ci := 7) (As := [.int _]) d_MO_failReason_2 rfl mv_MO_isRight st_MO_failReason_99 rfl rfl (by decide) rfl rfl (Nat.le_of_ble_eq_true rfl) k_m (cm_MO_isRight hM nd n6 s8 (by first | assumption | omega | decide) hw) ?_
  refine g_if_eq (pc := 5) (tgt := 12) d_MO_failReason_5 (by decide) (fun c_5 => ?_) (fun c_5 => ?_)
  · skip
    have w5 : ¬ (M_tot B.1 B.2.1 (B.2.2 i) nw) = 0 := of_decide_eq_false (bI_0.mp c_5)
    clear c_5
    refine g_iconst (pc := 12) (v := 1) d_MO_failReason_12 (by decide) ?_
    refine g_nameI (fun x_1 hx_1 => ?_)
    refine g_istore_n (pc := 13) (lv' := [(2, .int x_1), (0, .ref m), (1, .int (nI i))]) d_MO_failReason_13 rfl (by decide) rfl ?_
    refine g_aload_n (pc := 14) d_MO_failReason_14 rfl 1 rfl ?_
    refine g_iload_n (pc := 15) d_MO_failReason_15 rfl 2 rfl ?_
    refine g_cV1 (pc := 16) (ci := 7) (As := [.int _]) d_MO_failReason_16 rfl mv_MO_isValid st_MO_failReason_103 rfl rfl (by decide) rfl rfl (Nat.le_of_ble_eq_true rfl) k_m (cm_MO_isValid hM nd n6 s8 (by first | assumption | omega | decide)) ?_
    refine g_if_eq (pc := 19) (tgt := 26) d_MO_failReason_19 (by decide) (fun c_19 => ?_) (fun c_19 => ?_)
    · skip
      have w6 : (M_stamped (B.2.2 i) (B.1 9)) = false := bI_0.mp c_19
      clear c_19
      refine g_iload_n (pc := 26) d_MO_failReason_26 rfl 0 rfl ?_
      refine g_iconst (pc := 27) (v := 2) d_MO_failReason_27 (by decide) ?_
      refine g_iadd (pc := 28) d_MO_failReason_28 ?_
      refine g_iret (pc := 29) d_MO_failReason_29 rfl ?_
      refine ⟨congrArg (fun q => some (Value.int q)) ?_, rfl⟩
      unfold M_why
      simp [*]
    · skip
      have w6 := bI_n0 c_19
      clear c_19
      refine g_iload_n (pc := 22) d_MO_failReason_22 rfl 0 rfl ?_
      refine g_goto (pc := 23) (tgt := 29) d_MO_failReason_23 (by decide) ?_
      refine g_iret (pc := 29) d_MO_failReason_29 rfl ?_
      refine ⟨congrArg (fun q => some (Value.int q)) ?_, rfl⟩
      unfold M_why
      simp [*]
  · skip
    have w5 : (M_tot B.1 B.2.1 (B.2.2 i) nw) = 0 := of_decide_eq_true (bI_n0 c_5)
    clear c_5
    refine g_iconst (pc := 8) (v := 0) d_MO_failReason_8 (by decide) ?_
    refine g_goto (pc := 9) (tgt := 13) d_MO_failReason_9 (by decide) ?_
    refine g_nameI (fun x_2 hx_2 => ?_)
    refine g_istore_n (pc := 13) (lv' := [(2, .int x_2), (0, .ref m), (1, .int (nI i))]) d_MO_failReason_13 rfl (by decide) rfl ?_
    refine g_aload_n (pc := 14) d_MO_failReason_14 rfl 1 rfl ?_
    refine g_iload_n (pc := 15) d_MO_failReason_15 rfl 2 rfl ?_
    refine g_cV1 (pc := 16) (ci := 7) (As := [.int _]) d_MO_failReason_16 rfl mv_MO_isValid st_MO_failReason_103 rfl rfl (by decide) rfl rfl (Nat.le_of_ble_eq_true rfl) k_m (cm_MO_isValid hM nd n6 s8 (by first | assumption | omega | decide)) ?_
    refine g_if_eq (pc := 19) (tgt := 26) d_MO_failReason_19 (by decide) (fun c_19 => ?_) (fun c_19 => ?_)
    · skip
      have w6 : (M_stamped (B.2.2 i) (B.1 9)) = false := bI_0.mp c_19
      clear c_19
      refine g_iload_n (pc := 26) d_MO_failReason_26 rfl 0 rfl ?_
      refine g_iconst (pc := 27) (v := 2) d_MO_failReason_27 (by decide) ?_
      refine g_iadd (pc := 28) d_MO_failReason_28 ?_
      refine g_iret (pc := 29) d_MO_failReason_29 rfl ?_
      refine ⟨congrArg (fun q => some (Value.int q)) ?_, rfl⟩
      unfold M_why
      simp [*]
    · skip
      have w6 := bI_n0 c_19
      clear c_19
      refine g_iload_n (pc := 22) d_MO_failReason_22 rfl 0 rfl ?_
      refine g_goto (pc := 23) (tgt := 29) d_MO_failReason_23 (by decide) ?_
      refine g_iret (pc := 29) d_MO_failReason_29 rfl ?_
      refine ⟨congrArg (fun q => some (Value.int q)) ?_, rfl⟩
      unfold M_why
      simp [*]
theorem M_why_0 {t : Int32} {z : Bool} : M_why t z = 0 ↔ t = 0 ∧ z = true := by
  unfold M_why
  by_cases h : t = 0 <;> cases z <;> simp [h]
theorem M_why_pos {t : Int32} {z : Bool} (ht : 0 ≤ t) : 0 < M_why t z ↔ (0 < t ∨ z = false) := by
  have e : 0 < t ↔ ¬ t = 0 := by
    have a := (i_le _ _).mp ht
    have e0 : (0 : Int32).toInt = 0 := rfl
    rw [i_lt, e0]
    rw [e0] at a
    refine ⟨fun q w => ?_, fun q => ?_⟩
    · rw [w, e0] at q; omega
    · have : t.toInt ≠ 0 := fun w => q (Int32.toInt_inj.mp w)
      omega
  rw [e]
  unfold M_why
  by_cases h : t = 0 <;> cases z <;> simp [h]
theorem M_fine_0 (c : Nat → Int32) : M_fine c 0 true = 0 := by
  unfold M_fine M_ounces
  rw [if_pos rfl, show ((0 : Int32) + 27) / 28 = 0 from rfl, Int32.mul_zero]
  rfl
set_option maxRecDepth 20000 in
theorem cm_MO_fineFor {E : En} {h : Hp} {m st nw sc : Nat} {c g : Nat → Int32} {B : Bu} {R : List (Nat × (Nat → Int32))} {i : Nat} (hM : MoOk h m st) (nd : (m :: st :: R.map Prod.fst).Nodup) (n6 : nw ≤ 6) (s8 : sc ≤ 8) (hi : i < sc) (hw : B.1 7 = nI nw) : CR E m_MO_fineFor [.ref m, .int (nI i)] (wL h ((m, c) :: (st, enc nw sc B g) :: R)) (some (.int (M_fine B.1 (M_tot B.1 B.2.1 (B.2.2 i) nw) (M_stamped (B.2.2 i) (B.1 9))))) (wL h ((m, c) :: (st, enc nw sc B g) :: R)) := by
  refine ct_of rfl (by decide +kernel) (Nat.le_of_ble_eq_true rfl) ?_
  show G E m_MO_fineFor 0 [(0, .ref m), (1, .int (nI i))] [] (wL h ((m, c) :: (st, enc nw sc B g) :: R)) 0 0 _ noX
  obtain ⟨k_m, r_m_0, k_st, l_st⟩ := id hM
  refine g_aload_n (pc := 0) d_MO_fineFor_0 rfl 0 rfl ?_
  refine g_iload_n (pc := 1) d_MO_fineFor_1 rfl 1 rfl ?_
  refine g_cV1 (pc := 2) (ci := 7) (As := [.int _]) d_MO_fineFor_2 rfl mv_MO_failReason st_MO_fineFor_106 rfl rfl (by decide) rfl rfl (Nat.le_of_ble_eq_true rfl) k_m (cm_MO_failReason hM nd n6 s8 (by first | assumption | omega | decide) hw) ?_
  refine g_if_ne (pc := 5) (tgt := 10) d_MO_fineFor_5 (by decide) (fun c_5 => ?_) (fun c_5 => ?_)
  · skip
    refine g_aload_n (pc := 10) d_MO_fineFor_10 rfl 0 rfl ?_
    refine g_getR (pc := 11) (ci := 7) (f := 0) (b := st) rfl r_m_0 d_MO_fineFor_11 fl_MO_7 (by decide) k_m ?_
    refine g_iconst (pc := 14) (v := 2) d_MO_fineFor_14 (by decide) ?_
    refine g_mI (pc := 15) (k := 2) d_MO_fineFor_15 k_st l_st (by decide) nd ?_
    refine g_aload_n (pc := 16) d_MO_fineFor_16 rfl 0 rfl ?_
    refine g_iload_n (pc := 17) d_MO_fineFor_17 rfl 1 rfl ?_
    refine g_cV1 (pc := 18) (ci := 7) (As := [.int _]) d_MO_fineFor_18 rfl mv_MO_ouncesOf st_MO_fineFor_109 rfl rfl (by decide) rfl rfl (Nat.le_of_ble_eq_true rfl) k_m (cm_MO_ouncesOf hM nd n6 s8 (by first | assumption | omega | decide) hw) ?_
    refine g_imul (pc := 21) d_MO_fineFor_21 ?_
    refine g_nameI (fun x_1 hx_1 => ?_)
    refine g_istore_n (pc := 22) (lv' := [(2, .int x_1), (0, .ref m), (1, .int (nI i))]) d_MO_fineFor_22 rfl (by decide) rfl ?_
    refine g_aload_n (pc := 23) d_MO_fineFor_23 rfl 1 rfl ?_
    refine g_iload_n (pc := 24) d_MO_fineFor_24 rfl 2 rfl ?_
    refine g_cV1 (pc := 25) (ci := 7) (As := [.int _]) d_MO_fineFor_25 rfl mv_MO_isValid st_MO_fineFor_103 rfl rfl (by decide) rfl rfl (Nat.le_of_ble_eq_true rfl) k_m (cm_MO_isValid hM nd n6 s8 (by first | assumption | omega | decide)) ?_
    refine g_if_eq (pc := 28) (tgt := 35) d_MO_fineFor_28 (by decide) (fun c_28 => ?_) (fun c_28 => ?_)
    · skip
      refine g_iload_n (pc := 35) d_MO_fineFor_35 rfl 0 rfl ?_
      refine g_iconst (pc := 36) (v := 5) d_MO_fineFor_36 (by decide) ?_
      refine g_aload_n (pc := 37) d_MO_fineFor_37 rfl 1 rfl ?_
      refine g_getR (pc := 38) (ci := 7) (f := 0) (b := st) rfl r_m_0 d_MO_fineFor_38 fl_MO_7 (by decide) k_m ?_
      refine g_iconst (pc := 41) (v := 2) d_MO_fineFor_41 (by decide) ?_
      refine g_mI (pc := 42) (k := 2) d_MO_fineFor_42 k_st l_st (by decide) nd ?_
      refine g_imul (pc := 43) d_MO_fineFor_43 ?_
      refine g_iadd (pc := 44) d_MO_fineFor_44 ?_
      refine g_iret (pc := 45) d_MO_fineFor_45 rfl ?_
      refine ⟨congrArg (fun q => some (Value.int q)) ?_, rfl⟩
      first | (obtain ⟨q1, q2⟩ := M_why_0.mp c_5; rw [q1, q2, M_fine_0]; done) | (subst hx_1; unfold M_fine; first | (rw [if_pos (bI_n0 c_28), Int32.add_zero]; done) | (rw [if_neg (by rw [bI_0.mp c_28]; decide)]; done))
    · skip
      refine g_iload_n (pc := 31) d_MO_fineFor_31 rfl 0 rfl ?_
      refine g_goto (pc := 32) (tgt := 45) d_MO_fineFor_32 (by decide) ?_
      refine g_iret (pc := 45) d_MO_fineFor_45 rfl ?_
      refine ⟨congrArg (fun q => some (Value.int q)) ?_, rfl⟩
      first | (obtain ⟨q1, q2⟩ := M_why_0.mp c_5; rw [q1, q2, M_fine_0]; done) | (subst hx_1; unfold M_fine; first | (rw [if_pos (bI_n0 c_28), Int32.add_zero]; done) | (rw [if_neg (by rw [bI_0.mp c_28]; decide)]; done))
  · skip
    refine g_iconst (pc := 8) (v := 0) d_MO_fineFor_8 (by decide) ?_
    refine g_iret (pc := 9) d_MO_fineFor_9 rfl ?_
    refine ⟨congrArg (fun q => some (Value.int q)) ?_, rfl⟩
    first | (obtain ⟨q1, q2⟩ := M_why_0.mp c_5; rw [q1, q2, M_fine_0]; done) | (subst hx_1; unfold M_fine; first | (rw [if_pos (bI_n0 c_28), Int32.add_zero]; done) | (rw [if_neg (by rw [bI_0.mp c_28]; decide)]; done))
theorem vn_82 {E : En} {h : Hp} {m st nw sc : Nat} {c g : Nat → Int32} {B : Bu} {R : List (Nat × (Nat → Int32))} {i : Nat} {t f : Int32} {S9 C9 : Nat → Int32} {PP : Option Value → Hp → Prop} (hM : MoOk h m st) (nd : (m :: st :: R.map Prod.fst).Nodup) (n6 : nw ≤ 6) (s8 : sc ≤ 8) (hi : i < sc) (hw9 : C9 7 = nI nw) (ht : M_tot C9 B.2.1 S9 nw = t) (hT : 0 ≤ t) (kk : PP (some (.int f)) (wL h ((m, c) :: (st, enc nw sc (sC (sS B i (if 3 ≤ u1 (if 0 < t then M_straight S9 else S9) 11 (C9 9 + C9 3) 9 then u1 (u1 (if 0 < t then M_straight S9 else S9) 11 (C9 9 + C9 3)) 12 0 else u1 (if 0 < t then M_straight S9 else S9) 11 (C9 9 + C9 3))) C9) g) :: R))) : G E m_MO_visitNow 82 [(2, .int f), (0, .ref m), (1, .int (nI i))] [] (wL h ((m, c) :: (st, enc nw sc (sC (sS B i S9) C9) g) :: R)) 0 0 PP noX := by
  obtain ⟨k_m, r_m_0, k_st, l_st⟩ := id hM
  refine g_aload_n (pc := 82) d_MO_visitNow_82 rfl 1 rfl ?_
  refine g_iload_n (pc := 83) d_MO_visitNow_83 rfl 2 rfl ?_
  refine g_cV1 (pc := 84) (ci := 7) (As := [.int _]) d_MO_visitNow_84 rfl mv_MO_isRight st_MO_visitNow_99 rfl rfl (by decide) rfl rfl (Nat.le_of_ble_eq_true rfl) k_m (cm_MO_isRight hM nd n6 s8 hi hw9) ?_
  refine g_top (y := bI (decide (t = 0))) (by simp only [sS_sS, sS_sC, sC_sC, sS_i, sS_1, sS_21, sC_1, sC_2]; rw [ht]) ?_
  refine g_if_ne (pc := 87) (tgt := 104) d_MO_visitNow_87 (by decide) (fun c_87 => ?_) (fun c_87 => ?_)
  · skip
    have t0 : t = 0 := of_decide_eq_true (bI_n0 c_87)
    rw [if_neg (show ¬ 0 < t by rw [t0]; decide)] at kk
    refine g_aload_n (pc := 104) d_MO_visitNow_104 rfl 1 rfl ?_
    refine g_iload_n (pc := 105) d_MO_visitNow_105 rfl 2 rfl ?_
    refine g_bipush (pc := 106) (v := 11) d_MO_visitNow_106 (by decide) ?_
    refine g_aload_n (pc := 108) d_MO_visitNow_108 rfl 1 rfl ?_
    refine g_getR (pc := 109) (ci := 7) (f := 0) (b := st) rfl r_m_0 d_MO_visitNow_109 fl_MO_7 (by decide) k_m ?_
    refine g_bipush (pc := 112) (v := 9) d_MO_visitNow_112 (by decide) ?_
    refine g_mI (pc := 114) (k := 9) d_MO_visitNow_114 k_st l_st (by decide) nd ?_
    refine g_aload_n (pc := 115) d_MO_visitNow_115 rfl 1 rfl ?_
    refine g_getR (pc := 116) (ci := 7) (f := 0) (b := st) rfl r_m_0 d_MO_visitNow_116 fl_MO_7 (by decide) k_m ?_
    refine g_iconst (pc := 119) (v := 3) d_MO_visitNow_119 (by decide) ?_
    refine g_mI (pc := 120) (k := 3) d_MO_visitNow_120 k_st l_st (by decide) nd ?_
    refine g_iadd (pc := 121) d_MO_visitNow_121 ?_
    refine g_cV0 (pc := 122) (ci := 7) (As := [.int _, .int _, .int _]) d_MO_visitNow_122 rfl mv_MO_put st_MO_visitNow_65 rfl rfl (by decide) rfl rfl (Nat.le_of_ble_eq_true rfl) k_m (cm_MO_put (k := 11) hM nd n6 s8 (by first | assumption | omega | decide) (by decide)) ?_
    refine g_aload_n (pc := 125) d_MO_visitNow_125 rfl 1 rfl ?_
    refine g_iload_n (pc := 126) d_MO_visitNow_126 rfl 2 rfl ?_
    refine g_bipush (pc := 127) (v := 9) d_MO_visitNow_127 (by decide) ?_
    refine g_cV1 (pc := 129) (ci := 7) (As := [.int _, .int _]) d_MO_visitNow_129 rfl mv_MO_of st_MO_visitNow_69 rfl rfl (by decide) rfl rfl (Nat.le_of_ble_eq_true rfl) k_m (cm_MO_of (k := 9) hM nd n6 s8 (by first | assumption | omega | decide) (by decide)) ?_
    refine g_iconst (pc := 132) (v := 3) d_MO_visitNow_132 (by decide) ?_
    refine g_icmp_lt (pc := 133) (tgt := 144) d_MO_visitNow_133 (by decide) (fun c_133 => ?_) (fun c_133 => ?_)
    · skip
      refine g_iload_n (pc := 144) d_MO_visitNow_144 rfl 0 rfl ?_
      refine g_iret (pc := 145) d_MO_visitNow_145 rfl ?_
      simp only [sS_sS, sS_sC, sC_sC, sS_i, sS_1, sS_21, sC_1, sC_2] at c_133 ⊢
      try unfold M_straight at kk
      first | (rw [if_neg (Int32.not_le.mpr c_133)] at kk; exact kk) | (rw [if_pos (Int32.not_lt.mp c_133)] at kk; exact kk)
    · skip
      refine g_aload_n (pc := 136) d_MO_visitNow_136 rfl 1 rfl ?_
      refine g_iload_n (pc := 137) d_MO_visitNow_137 rfl 2 rfl ?_
      refine g_bipush (pc := 138) (v := 12) d_MO_visitNow_138 (by decide) ?_
      refine g_iconst (pc := 140) (v := 0) d_MO_visitNow_140 (by decide) ?_
      refine g_cV0 (pc := 141) (ci := 7) (As := [.int _, .int _, .int _]) d_MO_visitNow_141 rfl mv_MO_put st_MO_visitNow_65 rfl rfl (by decide) rfl rfl (Nat.le_of_ble_eq_true rfl) k_m (cm_MO_put (k := 12) hM nd n6 s8 (by first | assumption | omega | decide) (by decide)) ?_
      refine g_iload_n (pc := 144) d_MO_visitNow_144 rfl 0 rfl ?_
      refine g_iret (pc := 145) d_MO_visitNow_145 rfl ?_
      simp only [sS_sS, sS_sC, sC_sC, sS_i, sS_1, sS_21, sC_1, sC_2] at c_133 ⊢
      try unfold M_straight at kk
      first | (rw [if_neg (Int32.not_le.mpr c_133)] at kk; exact kk) | (rw [if_pos (Int32.not_lt.mp c_133)] at kk; exact kk)
  · skip
    have t1 : 0 < t := by have q := of_decide_eq_false (bI_0.mp c_87); have a := (i_le _ _).mp hT; have e0 : (0 : Int32).toInt = 0 := rfl; rw [i_lt, e0]; rw [e0] at a; have : t.toInt ≠ 0 := fun w => q (Int32.toInt_inj.mp w); omega
    rw [if_pos t1] at kk
    refine g_aload_n (pc := 90) d_MO_visitNow_90 rfl 1 rfl ?_
    refine g_iload_n (pc := 91) d_MO_visitNow_91 rfl 2 rfl ?_
    refine g_iconst (pc := 92) (v := 1) d_MO_visitNow_92 (by decide) ?_
    refine g_iconst (pc := 93) (v := 0) d_MO_visitNow_93 (by decide) ?_
    refine g_cV0 (pc := 94) (ci := 7) (As := [.int _, .int _, .int _]) d_MO_visitNow_94 rfl mv_MO_put st_MO_visitNow_65 rfl rfl (by decide) rfl rfl (Nat.le_of_ble_eq_true rfl) k_m (cm_MO_put (k := 1) hM nd n6 s8 (by first | assumption | omega | decide) (by decide)) ?_
    refine g_aload_n (pc := 97) d_MO_visitNow_97 rfl 1 rfl ?_
    refine g_iload_n (pc := 98) d_MO_visitNow_98 rfl 2 rfl ?_
    refine g_iconst (pc := 99) (v := 2) d_MO_visitNow_99 (by decide) ?_
    refine g_iconst (pc := 100) (v := 0) d_MO_visitNow_100 (by decide) ?_
    refine g_cV0 (pc := 101) (ci := 7) (As := [.int _, .int _, .int _]) d_MO_visitNow_101 rfl mv_MO_put st_MO_visitNow_65 rfl rfl (by decide) rfl rfl (Nat.le_of_ble_eq_true rfl) k_m (cm_MO_put (k := 2) hM nd n6 s8 (by first | assumption | omega | decide) (by decide)) ?_
    refine g_aload_n (pc := 104) d_MO_visitNow_104 rfl 1 rfl ?_
    refine g_iload_n (pc := 105) d_MO_visitNow_105 rfl 2 rfl ?_
    refine g_bipush (pc := 106) (v := 11) d_MO_visitNow_106 (by decide) ?_
    refine g_aload_n (pc := 108) d_MO_visitNow_108 rfl 1 rfl ?_
    refine g_getR (pc := 109) (ci := 7) (f := 0) (b := st) rfl r_m_0 d_MO_visitNow_109 fl_MO_7 (by decide) k_m ?_
    refine g_bipush (pc := 112) (v := 9) d_MO_visitNow_112 (by decide) ?_
    refine g_mI (pc := 114) (k := 9) d_MO_visitNow_114 k_st l_st (by decide) nd ?_
    refine g_aload_n (pc := 115) d_MO_visitNow_115 rfl 1 rfl ?_
    refine g_getR (pc := 116) (ci := 7) (f := 0) (b := st) rfl r_m_0 d_MO_visitNow_116 fl_MO_7 (by decide) k_m ?_
    refine g_iconst (pc := 119) (v := 3) d_MO_visitNow_119 (by decide) ?_
    refine g_mI (pc := 120) (k := 3) d_MO_visitNow_120 k_st l_st (by decide) nd ?_
    refine g_iadd (pc := 121) d_MO_visitNow_121 ?_
    refine g_cV0 (pc := 122) (ci := 7) (As := [.int _, .int _, .int _]) d_MO_visitNow_122 rfl mv_MO_put st_MO_visitNow_65 rfl rfl (by decide) rfl rfl (Nat.le_of_ble_eq_true rfl) k_m (cm_MO_put (k := 11) hM nd n6 s8 (by first | assumption | omega | decide) (by decide)) ?_
    refine g_aload_n (pc := 125) d_MO_visitNow_125 rfl 1 rfl ?_
    refine g_iload_n (pc := 126) d_MO_visitNow_126 rfl 2 rfl ?_
    refine g_bipush (pc := 127) (v := 9) d_MO_visitNow_127 (by decide) ?_
    refine g_cV1 (pc := 129) (ci := 7) (As := [.int _, .int _]) d_MO_visitNow_129 rfl mv_MO_of st_MO_visitNow_69 rfl rfl (by decide) rfl rfl (Nat.le_of_ble_eq_true rfl) k_m (cm_MO_of (k := 9) hM nd n6 s8 (by first | assumption | omega | decide) (by decide)) ?_
    refine g_iconst (pc := 132) (v := 3) d_MO_visitNow_132 (by decide) ?_
    refine g_icmp_lt (pc := 133) (tgt := 144) d_MO_visitNow_133 (by decide) (fun c_133 => ?_) (fun c_133 => ?_)
    · skip
      refine g_iload_n (pc := 144) d_MO_visitNow_144 rfl 0 rfl ?_
      refine g_iret (pc := 145) d_MO_visitNow_145 rfl ?_
      simp only [sS_sS, sS_sC, sC_sC, sS_i, sS_1, sS_21, sC_1, sC_2] at c_133 ⊢
      try unfold M_straight at kk
      first | (rw [if_neg (Int32.not_le.mpr c_133)] at kk; exact kk) | (rw [if_pos (Int32.not_lt.mp c_133)] at kk; exact kk)
    · skip
      refine g_aload_n (pc := 136) d_MO_visitNow_136 rfl 1 rfl ?_
      refine g_iload_n (pc := 137) d_MO_visitNow_137 rfl 2 rfl ?_
      refine g_bipush (pc := 138) (v := 12) d_MO_visitNow_138 (by decide) ?_
      refine g_iconst (pc := 140) (v := 0) d_MO_visitNow_140 (by decide) ?_
      refine g_cV0 (pc := 141) (ci := 7) (As := [.int _, .int _, .int _]) d_MO_visitNow_141 rfl mv_MO_put st_MO_visitNow_65 rfl rfl (by decide) rfl rfl (Nat.le_of_ble_eq_true rfl) k_m (cm_MO_put (k := 12) hM nd n6 s8 (by first | assumption | omega | decide) (by decide)) ?_
      refine g_iload_n (pc := 144) d_MO_visitNow_144 rfl 0 rfl ?_
      refine g_iret (pc := 145) d_MO_visitNow_145 rfl ?_
      simp only [sS_sS, sS_sC, sC_sC, sS_i, sS_1, sS_21, sC_1, sC_2] at c_133 ⊢
      try unfold M_straight at kk
      first | (rw [if_neg (Int32.not_le.mpr c_133)] at kk; exact kk) | (rw [if_pos (Int32.not_lt.mp c_133)] at kk; exact kk)
set_option maxRecDepth 20000 in
theorem cm_MO_visitNow {E : En} {h : Hp} {m st nw sc : Nat} {c g : Nat → Int32} {B : Bu} {R : List (Nat × (Nat → Int32))} {i : Nat} (hM : MoOk h m st) (nd : (m :: st :: R.map Prod.fst).Nodup) (n6 : nw ≤ 6) (s8 : sc ≤ 8) (hi : i < sc) (hw : B.1 7 = nI nw) (hT : 0 ≤ (M_tot B.1 B.2.1 (B.2.2 i) nw)) : CR E m_MO_visitNow [.ref m, .int (nI i)] (wL h ((m, c) :: (st, enc nw sc B g) :: R)) (some (.int (P_fine B i nw))) (wL h ((m, c) :: (st, enc nw sc (P_ins B i nw) g) :: R)) := by
  refine ct_of rfl (by decide +kernel) (Nat.le_of_ble_eq_true rfl) ?_
  show G E m_MO_visitNow 0 [(0, .ref m), (1, .int (nI i))] [] (wL h ((m, c) :: (st, enc nw sc B g) :: R)) 0 0 _ noX
  obtain ⟨k_m, r_m_0, k_st, l_st⟩ := id hM
  refine g_aload_n (pc := 0) d_MO_visitNow_0 rfl 0 rfl ?_
  refine g_iload_n (pc := 1) d_MO_visitNow_1 rfl 1 rfl ?_
  refine g_cV1 (pc := 2) (ci := 7) (As := [.int _]) d_MO_visitNow_2 rfl mv_MO_fineFor st_MO_visitNow_112 rfl rfl (by decide) rfl rfl (Nat.le_of_ble_eq_true rfl) k_m (cm_MO_fineFor hM nd n6 s8 hi hw) ?_
  generalize hz : (M_stamped (B.2.2 i) (B.1 9)) = z at *
  generalize htt : (M_tot B.1 B.2.1 (B.2.2 i) nw) = t at *
  generalize hff : M_fine B.1 t z = f at *
  refine g_istore_n (pc := 5) (lv' := [(2, .int f), (0, .ref m), (1, .int (nI i))]) d_MO_visitNow_5 rfl (by decide) rfl ?_
  refine g_aload_n (pc := 6) d_MO_visitNow_6 rfl 1 rfl ?_
  refine g_getR (pc := 7) (ci := 7) (f := 0) (b := st) rfl r_m_0 d_MO_visitNow_7 fl_MO_7 (by decide) k_m ?_
  refine g_bipush (pc := 10) (v := 11) d_MO_visitNow_10 (by decide) ?_
  refine g_dup2 (pc := 12) d_MO_visitNow_12 rfl rfl ?_
  refine g_mI (pc := 13) (k := 11) d_MO_visitNow_13 k_st l_st (by decide) nd ?_
  refine g_iconst (pc := 14) (v := 1) d_MO_visitNow_14 (by decide) ?_
  refine g_iadd (pc := 15) d_MO_visitNow_15 ?_
  refine g_mIS (pc := 16) (k := 11) d_MO_visitNow_16 k_st l_st (by decide) nd ?_
  refine g_aload_n (pc := 17) d_MO_visitNow_17 rfl 1 rfl ?_
  refine g_iload_n (pc := 18) d_MO_visitNow_18 rfl 2 rfl ?_
  refine g_bipush (pc := 19) (v := 10) d_MO_visitNow_19 (by decide) ?_
  refine g_aload_n (pc := 21) d_MO_visitNow_21 rfl 1 rfl ?_
  refine g_getR (pc := 22) (ci := 7) (f := 0) (b := st) rfl r_m_0 d_MO_visitNow_22 fl_MO_7 (by decide) k_m ?_
  refine g_bipush (pc := 25) (v := 9) d_MO_visitNow_25 (by decide) ?_
  refine g_mI (pc := 27) (k := 9) d_MO_visitNow_27 k_st l_st (by decide) nd ?_
  refine g_cV0 (pc := 28) (ci := 7) (As := [.int _, .int _, .int _]) d_MO_visitNow_28 rfl mv_MO_put st_MO_visitNow_65 rfl rfl (by decide) rfl rfl (Nat.le_of_ble_eq_true rfl) k_m (cm_MO_put (k := 10) hM nd n6 s8 (by first | assumption | omega | decide) (by decide)) ?_
  refine g_aload_n (pc := 31) d_MO_visitNow_31 rfl 1 rfl ?_
  refine g_iload_n (pc := 32) d_MO_visitNow_32 rfl 2 rfl ?_
  refine g_bipush (pc := 33) (v := 8) d_MO_visitNow_33 (by decide) ?_
  refine g_iconst (pc := 35) (v := 0) d_MO_visitNow_35 (by decide) ?_
  refine g_cV0 (pc := 36) (ci := 7) (As := [.int _, .int _, .int _]) d_MO_visitNow_36 rfl mv_MO_put st_MO_visitNow_65 rfl rfl (by decide) rfl rfl (Nat.le_of_ble_eq_true rfl) k_m (cm_MO_put (k := 8) hM nd n6 s8 (by first | assumption | omega | decide) (by decide)) ?_
  refine g_h (h' := wL h ((m, c) :: (st, enc nw sc (sC (sS B i (u1 (u1 (B.2.2 i) 10 (B.1 9)) 8 0)) (u1 B.1 11 (B.1 11 + 1))) g) :: R)) (by simp only [sS_sS, sS_sC, sC_sC, sS_i, sS_1, sS_21, sC_1, sC_2]; rfl) ?_
  refine g_aload_n (pc := 39) d_MO_visitNow_39 rfl 1 rfl ?_
  refine g_iload_n (pc := 40) d_MO_visitNow_40 rfl 2 rfl ?_
  refine g_cV1 (pc := 41) (ci := 7) (As := [.int _]) d_MO_visitNow_41 rfl mv_MO_failReason st_MO_visitNow_106 rfl rfl (by decide) rfl rfl (Nat.le_of_ble_eq_true rfl) k_m (cm_MO_failReason hM nd n6 s8 hi hw) ?_
  refine g_top (y := M_why t z) (by rw [← htt, ← hz]; simp only [sS_sS, sS_sC, sC_sC, sS_i, sS_1, sS_21, sC_1, sC_2]; exact congrArg (fun q => M_why q _) (M_tot_congr (by rfl) (by rfl) (by rfl) (by rfl) nw)) ?_
  refine g_if_le (pc := 44) (tgt := 82) d_MO_visitNow_44 (by decide) (fun c_44 => ?_) (fun c_44 => ?_)
  · skip
    first | (have q9 : ¬ (0 < t ∨ z = false) := fun q => absurd ((M_why_pos hT).mpr q) (Int32.not_lt.mpr c_44); refine vn_82 hM nd n6 s8 hi hw (t := t) (by rw [← htt]; exact M_tot_congr (by rfl) (by rfl) (by rfl) (by rfl) nw) hT ⟨congrArg (fun q => some (Value.int q)) (by unfold P_fine; rw [htt, hz, hff]), ?_⟩; simp only [P_ins, hz, htt, M_visS, M_visC, hff, if_neg q9]; first | rfl | skip) | (have q9 := (M_why_pos hT).mp (Int32.not_le.mp c_44); refine g_h (h' := wL h ((m, c) :: (st, enc nw sc (sC (sS B i (u1 (u1 (u1 (u1 (u1 (B.2.2 i) 10 (B.1 9)) 8 0) 0 (B.2.2 i 0 + -f)) 13 (B.2.2 i 13 + f)) 9 (B.2.2 i 9 + 1))) (u1 (u1 B.1 11 (B.1 11 + 1)) 10 (B.1 10 + f))) g) :: R)) (by simp only [sS_sS, sS_sC, sC_sC, sS_i, sS_1, sS_21, sC_1, sC_2]; rfl) ?_; refine vn_82 hM nd n6 s8 hi hw (t := t) (by rw [← htt]; exact M_tot_congr (by rfl) (by rfl) (by rfl) (by rfl) nw) hT ⟨congrArg (fun q => some (Value.int q)) (by unfold P_fine; rw [htt, hz, hff]), ?_⟩; simp only [P_ins, hz, htt, M_visS, M_visC, hff, if_pos q9, i_sub]; rfl)
  · skip
    refine g_aload_n (pc := 47) d_MO_visitNow_47 rfl 1 rfl ?_
    refine g_iload_n (pc := 48) d_MO_visitNow_48 rfl 2 rfl ?_
    refine g_iconst (pc := 49) (v := 0) d_MO_visitNow_49 (by decide) ?_
    refine g_iload_n (pc := 50) d_MO_visitNow_50 rfl 0 rfl ?_
    refine g_ineg (pc := 51) d_MO_visitNow_51 ?_
    refine g_cV0 (pc := 52) (ci := 7) (As := [.int _, .int _, .int _]) d_MO_visitNow_52 rfl mv_MO_addTo st_MO_visitNow_96 rfl rfl (by decide) rfl rfl (Nat.le_of_ble_eq_true rfl) k_m (cm_MO_addTo (k := 0) hM nd n6 s8 (by first | assumption | omega | decide) (by decide)) ?_
    refine g_aload_n (pc := 55) d_MO_visitNow_55 rfl 1 rfl ?_
    refine g_iload_n (pc := 56) d_MO_visitNow_56 rfl 2 rfl ?_
    refine g_bipush (pc := 57) (v := 13) d_MO_visitNow_57 (by decide) ?_
    refine g_iload_n (pc := 59) d_MO_visitNow_59 rfl 0 rfl ?_
    refine g_cV0 (pc := 60) (ci := 7) (As := [.int _, .int _, .int _]) d_MO_visitNow_60 rfl mv_MO_addTo st_MO_visitNow_96 rfl rfl (by decide) rfl rfl (Nat.le_of_ble_eq_true rfl) k_m (cm_MO_addTo (k := 13) hM nd n6 s8 (by first | assumption | omega | decide) (by decide)) ?_
    refine g_aload_n (pc := 63) d_MO_visitNow_63 rfl 1 rfl ?_
    refine g_iload_n (pc := 64) d_MO_visitNow_64 rfl 2 rfl ?_
    refine g_bipush (pc := 65) (v := 9) d_MO_visitNow_65 (by decide) ?_
    refine g_iconst (pc := 67) (v := 1) d_MO_visitNow_67 (by decide) ?_
    refine g_cV0 (pc := 68) (ci := 7) (As := [.int _, .int _, .int _]) d_MO_visitNow_68 rfl mv_MO_addTo st_MO_visitNow_96 rfl rfl (by decide) rfl rfl (Nat.le_of_ble_eq_true rfl) k_m (cm_MO_addTo (k := 9) hM nd n6 s8 (by first | assumption | omega | decide) (by decide)) ?_
    refine g_aload_n (pc := 71) d_MO_visitNow_71 rfl 1 rfl ?_
    refine g_getR (pc := 72) (ci := 7) (f := 0) (b := st) rfl r_m_0 d_MO_visitNow_72 fl_MO_7 (by decide) k_m ?_
    refine g_bipush (pc := 75) (v := 10) d_MO_visitNow_75 (by decide) ?_
    refine g_dup2 (pc := 77) d_MO_visitNow_77 rfl rfl ?_
    refine g_mI (pc := 78) (k := 10) d_MO_visitNow_78 k_st l_st (by decide) nd ?_
    refine g_iload_n (pc := 79) d_MO_visitNow_79 rfl 0 rfl ?_
    refine g_iadd (pc := 80) d_MO_visitNow_80 ?_
    refine g_mIS (pc := 81) (k := 10) d_MO_visitNow_81 k_st l_st (by decide) nd ?_
    first | (have q9 : ¬ (0 < t ∨ z = false) := fun q => absurd ((M_why_pos hT).mpr q) (Int32.not_lt.mpr c_44); refine vn_82 hM nd n6 s8 hi hw (t := t) (by rw [← htt]; exact M_tot_congr (by rfl) (by rfl) (by rfl) (by rfl) nw) hT ⟨congrArg (fun q => some (Value.int q)) (by unfold P_fine; rw [htt, hz, hff]), ?_⟩; simp only [P_ins, hz, htt, M_visS, M_visC, hff, if_neg q9]; first | rfl | skip) | (have q9 := (M_why_pos hT).mp (Int32.not_le.mp c_44); refine g_h (h' := wL h ((m, c) :: (st, enc nw sc (sC (sS B i (u1 (u1 (u1 (u1 (u1 (B.2.2 i) 10 (B.1 9)) 8 0) 0 (B.2.2 i 0 + -f)) 13 (B.2.2 i 13 + f)) 9 (B.2.2 i 9 + 1))) (u1 (u1 B.1 11 (B.1 11 + 1)) 10 (B.1 10 + f))) g) :: R)) (by simp only [sS_sS, sS_sC, sC_sC, sS_i, sS_1, sS_21, sC_1, sC_2]; rfl) ?_; refine vn_82 hM nd n6 s8 hi hw (t := t) (by rw [← htt]; exact M_tot_congr (by rfl) (by rfl) (by rfl) (by rfl) nw) hT ⟨congrArg (fun q => some (Value.int q)) (by unfold P_fine; rw [htt, hz, hff]), ?_⟩; simp only [P_ins, hz, htt, M_visS, M_visC, hff, if_pos q9, i_sub]; rfl)
