/-! GOOD BUREAUS: what calls keep -/
theorem i_addI {a b : Int32} (h1 : -2147483648 ≤ a.toInt + b.toInt) (h2 : a.toInt + b.toInt ≤ 2147483647) : (a + b).toInt = a.toInt + b.toInt := by
  rw [Int32.toInt_add]
  exact Int.bmod_eq_of_le (by omega) (by omega)
theorem i_subI {a b : Int32} (h1 : -2147483648 ≤ a.toInt - b.toInt) (h2 : a.toInt - b.toInt ≤ 2147483647) : (a - b).toInt = a.toInt - b.toInt := by
  rw [Int32.toInt_sub]
  exact Int.bmod_eq_of_le (by omega) (by omega)
theorem i_mulI {a b : Int32} (h1 : -2147483648 ≤ a.toInt * b.toInt) (h2 : a.toInt * b.toInt ≤ 2147483647) : (a * b).toInt = a.toInt * b.toInt := by
  rw [Int32.toInt_mul]
  exact Int.bmod_eq_of_le (by omega) (by omega)
theorem i_divI {a b : Int32} (ha : -2147483648 < a.toInt) (hb : 0 < b.toInt) : (a / b).toInt = if 0 ≤ a.toInt then a.toInt / b.toInt else -((-a.toInt) / b.toInt) := by
  have hm : ¬ a = Int32.minValue := fun e => by rw [e] at ha; exact absurd ha (by decide)
  rw [Int32.toInt_div_of_ne_left _ _ hm]
  split
  · next h => exact Int.tdiv_eq_ediv_of_nonneg h
  · next h =>
    have e : a.toInt = -(-a.toInt) := by omega
    rw [e, Int.neg_tdiv, Int.tdiv_eq_ediv_of_nonneg (by omega)]
    simp
theorem i_0 : (0 : Int32).toInt = 0 := rfl
theorem i_1 : (1 : Int32).toInt = 1 := rfl
theorem i_pm {a b : Int} {A B : Nat} (h1 : -(A : Int) ≤ a) (h2 : a ≤ A) (h3 : -(B : Int) ≤ b) (h4 : b ≤ B) : -((A * B : Nat) : Int) ≤ a * b ∧ a * b ≤ ((A * B : Nat) : Int) := by
  have k : (a * b).natAbs ≤ A * B := by
    rw [Int.natAbs_mul]
    exact Nat.mul_le_mul (by omega) (by omega)
  omega
def Sg (U : Nat) (s : Nat → Int32) : Prop := (s 12 = 0 ∨ s 12 = 1) ∧ (-500 ≤ (s 1).toInt ∧ (s 1).toInt ≤ 500) ∧ (-50 ≤ (s 2).toInt ∧ (s 2).toInt ≤ 50) ∧ (0 ≤ (s 8).toInt ∧ (s 8).toInt ≤ U)
/-- the bureau's own numbers and weights -/
def Cg (c w : Nat → Int32) (nw : Nat) : Prop := (0 ≤ (c 0).toInt ∧ (c 0).toInt ≤ 50) ∧ (0 ≤ (c 1).toInt ∧ (c 1).toInt ≤ 50) ∧ ∀ j, j < nw → 0 ≤ (w j).toInt ∧ (w j).toInt ≤ 5000
def Gd (B : Bu) (nw sc ni U : Nat) : Prop := Bk B nw sc ni ∧ Cg B.1 B.2.1 nw ∧ ∀ i, i < sc → Sg U (B.2.2 i)
theorem Gd.bk {B : Bu} {nw sc ni U : Nat} (h : Gd B nw sc ni U) : Bk B nw sc ni := h.1
theorem Gd.sg {B : Bu} {nw sc ni U i : Nat} (h : Gd B nw sc ni U) (hi : i < sc) : Sg U (B.2.2 i) := h.2.2 i hi
theorem Sg.mono {U V : Nat} {s : Nat → Int32} (h : Sg U s) (hV : U ≤ V) : Sg V s := ⟨h.1, h.2.1, h.2.2.1, h.2.2.2.1, by have := h.2.2.2.2; omega⟩
theorem Gd.mono {B : Bu} {nw sc ni U V : Nat} (h : Gd B nw sc ni U) (hV : U ≤ V) : Gd B nw sc ni V := ⟨h.1, h.2.1, fun i hi => (h.2.2 i hi).mono hV⟩
theorem M_term_b {x y : Int32} (h1 : 0 ≤ x.toInt) (h2 : x.toInt ≤ 5000) (h3 : -50 ≤ y.toInt) (h4 : y.toInt ≤ 50) : -250 ≤ (x * y / 1000).toInt ∧ (x * y / 1000).toInt ≤ 250 := by
  have e := i_pm (A := 5000) (B := 50) (a := x.toInt) (b := y.toInt) (by omega) (by omega) (by omega) (by omega)
  have e0 : ((5000 * 50 : Nat) : Int) = 250000 := rfl
  rw [e0] at e
  have m : (x * y).toInt = x.toInt * y.toInt := i_mulI (by omega) (by omega)
  have e1 : (1000 : Int32).toInt = 1000 := rfl
  rw [i_divI (by rw [m]; omega) (by rw [e1]; omega), m, e1]
  generalize x.toInt * y.toInt = z at *
  split <;> omega
theorem M_err_b {U : Nat} {s : Nat → Int32} {g : Int32} (h : Sg U s) (h1 : 0 ≤ g.toInt) (h2 : g.toInt ≤ 5000) : -750 ≤ (M_err s g).toInt ∧ (M_err s g).toInt ≤ 750 := by
  have t := M_term_b h1 h2 h.2.2.1.1 h.2.2.1.2
  have o := h.2.1
  unfold M_err
  rw [i_addI (by omega) (by omega)]
  omega
theorem M_term_p {x y : Int32} (h1 : 0 ≤ x.toInt) (h2 : x.toInt ≤ 5000) (h3 : 0 ≤ y.toInt) (h4 : y.toInt ≤ 50) : 0 ≤ (x * y / 1000).toInt := by
  have e := i_pm (A := 5000) (B := 50) (a := x.toInt) (b := y.toInt) (by omega) (by omega) (by omega) (by omega)
  have e0 : ((5000 * 50 : Nat) : Int) = 250000 := rfl
  rw [e0] at e
  have p : 0 ≤ x.toInt * y.toInt := Int.mul_nonneg h1 h3
  have m : (x * y).toInt = x.toInt * y.toInt := i_mulI (by omega) (by omega)
  have e1 : (1000 : Int32).toInt = 1000 := rfl
  rw [i_divI (by rw [m]; omega) (by rw [e1]; omega), m, e1]
  generalize x.toInt * y.toInt = z at *
  split <;> omega
theorem M_abs_b {x : Int32} {A : Nat} (hA : A < 1000000) (h1 : -(A : Int) ≤ x.toInt) (h2 : x.toInt ≤ A) : 0 ≤ (M_abs x).toInt ∧ (M_abs x).toInt ≤ A := by
  unfold M_abs
  split
  · next h => have := (i_le _ _).mp h; rw [i_0] at this; omega
  · next h =>
    have q : ¬ (0 : Int) ≤ x.toInt := fun z => h ((i_le _ _).mpr (by rw [i_0]; exact z))
    rw [i_subI (by rw [i_0]; omega) (by rw [i_0]; omega), i_0]
    omega
theorem M_pos_b (x : Int32) : 0 ≤ (M_pos x).toInt ∧ ((M_pos x).toInt = x.toInt ∨ (M_pos x).toInt = 0) := by
  unfold M_pos
  split
  · next h => have := (i_lt _ _).mp h; rw [i_0] at this; exact ⟨by omega, Or.inl rfl⟩
  · exact ⟨by decide, Or.inr rfl⟩
theorem M_bound_b {c w : Nat → Int32} {nw : Nat} {g : Int32} (h : Cg c w nw) (h1 : 0 ≤ g.toInt) (h2 : g.toInt ≤ 5000) : 0 ≤ (M_bound c g).toInt ∧ (M_bound c g).toInt ≤ 300 := by
  have t := M_term_b h1 h2 (by have := h.2.1.1; omega) h.2.1.2
  have t2 := M_term_p h1 h2 h.2.1.1 h.2.1.2
  have o := h.1
  unfold M_bound
  rw [i_addI (by omega) (by omega)]
  omega
theorem M_exc_b {c w s : Nat → Int32} {nw U : Nat} {g : Int32} (h : Cg c w nw) (hs : Sg U s) (h1 : 0 ≤ g.toInt) (h2 : g.toInt ≤ 5000) : 0 ≤ (M_exc c s g).toInt ∧ (M_exc c s g).toInt ≤ 750 := by
  have e := M_err_b hs h1 h2
  have b := M_bound_b h h1 h2
  have a := M_abs_b (x := M_err s g) (A := 750) (by omega) (by omega) (by omega)
  have d : (M_abs (M_err s g) - M_bound c g).toInt = (M_abs (M_err s g)).toInt - (M_bound c g).toInt := i_subI (by omega) (by omega)
  have p := M_pos_b (M_abs (M_err s g) - M_bound c g)
  unfold M_exc
  omega
theorem M_tot_b {c w s : Nat → Int32} {nw U : Nat} (h : Cg c w nw) (hs : Sg U s) (h6 : nw ≤ 6) : ∀ n, n ≤ nw → 0 ≤ (M_tot c w s n).toInt ∧ (M_tot c w s n).toInt ≤ 750 * n
  | 0, _ => ⟨Int.le_refl 0, Int.le_refl 0⟩
  | n + 1, hn => by
    have ih := M_tot_b h hs h6 n (by omega)
    have e := M_exc_b h hs (h.2.2 n hn).1 (h.2.2 n hn).2
    rw [M_tot, i_addI (by omega) (by omega)]
    omega
theorem M_tot_0 {c w s : Nat → Int32} {nw U : Nat} (h : Cg c w nw) (hs : Sg U s) (h6 : nw ≤ 6) : 0 ≤ M_tot c w s nw := (i_le _ _).mpr (by rw [i_0]; exact (M_tot_b h hs h6 nw (Nat.le_refl _)).1)
theorem Gd.tot {B : Bu} {nw sc ni U i : Nat} (h : Gd B nw sc ni U) (hi : i < sc) : 0 ≤ M_tot B.1 B.2.1 (B.2.2 i) nw := M_tot_0 h.2.1 (h.2.2 i hi) h.1.2.1
/-! what a day does keeps it -/
theorem M_clip_b (o : Int32) : -500 ≤ (M_clip o).toInt ∧ (M_clip o).toInt ≤ 500 := by
  by_cases h : o ≤ 500
  · by_cases h2 : -500 ≤ o
    · rw [M_clip_1 h h2]
      exact ⟨(i_le _ _).mp h2, (i_le _ _).mp h⟩
    · rw [M_clip_3 h h2]; decide
  · rw [M_clip_2 h]; decide
theorem Sg_drift {U : Nat} {s : Nat → Int32} (h : Sg U s) : Sg U (M_drift s) := ⟨h.1, M_clip_b _, h.2.2⟩
theorem Sg_straight {U : Nat} {s : Nat → Int32} (h : Sg U s) : Sg U (M_straight s) := ⟨h.1, (show -500 ≤ (0 : Int32).toInt ∧ (0 : Int32).toInt ≤ 500 by decide), (show -50 ≤ (0 : Int32).toInt ∧ (0 : Int32).toInt ≤ 50 by decide), h.2.2.2⟩
theorem Sg_open {U : Nat} {s : Nat → Int32} (h : Sg U s) : Sg U (M_open s) := ⟨Or.inr rfl, h.2⟩
theorem Sg_u {U : Nat} {s : Nat → Int32} {k : Nat} {v : Int32} (h : Sg U s) (hk : k ≠ 12 ∧ k ≠ 1 ∧ k ≠ 2 ∧ k ≠ 8) : Sg U (u1 s k v) := by
  obtain ⟨k1, k2, k3, k4⟩ := hk
  unfold Sg
  rw [u1_ne (Ne.symm k1), u1_ne (Ne.symm k2), u1_ne (Ne.symm k3), u1_ne (Ne.symm k4)]
  exact h
theorem Sg_8 {U : Nat} {s : Nat → Int32} (h : Sg U s) (hU : U < 2000000000) : Sg (U + 1) (u1 s 8 (s 8 + 1)) := by
  refine ⟨h.1, h.2.1, h.2.2.1, ?_⟩
  show 0 ≤ (s 8 + 1).toInt ∧ (s 8 + 1).toInt ≤ ((U + 1 : Nat) : Int)
  have := h.2.2.2
  rw [i_addI (by rw [i_1]; omega) (by rw [i_1]; omega), i_1]
  omega
theorem Sg_sell {U : Nat} {c s : Nat → Int32} (h : Sg U s) (hU : U < 2000000000) : Sg (U + 1) (M_sell c s) := by
  have h1 : Sg U (u1 (u1 s 0 (s 0 + M_gain c s (M_false s (c 9)))) 14 (s 14 + M_gain c s (M_false s (c 9)))) := Sg_u (Sg_u h (by decide)) (by decide)
  unfold M_sell
  dsimp only
  split
  · exact Sg_8 h1 hU
  · exact h1.mono (Nat.le_succ U)
theorem Sg_vis {U : Nat} {c s : Nat → Int32} {t : Int32} {z : Bool} (h : Sg U s) : Sg U (M_visS c s t z) := by
  have h1 : Sg U (u1 (u1 s 10 (c 9)) 8 0) := ⟨h.1, h.2.1, h.2.2.1, by show 0 ≤ (0 : Int32).toInt ∧ (0 : Int32).toInt ≤ (U : Int); rw [i_0]; omega⟩
  have h2 : Sg U (if 0 < t ∨ z = false then u1 (u1 (u1 (u1 (u1 s 10 (c 9)) 8 0) 0 (s 0 - M_fine c t z)) 13 (s 13 + M_fine c t z)) 9 (s 9 + 1) else u1 (u1 s 10 (c 9)) 8 0) := by
    split
    · exact Sg_u (Sg_u (Sg_u h1 (by decide)) (by decide)) (by decide)
    · exact h1
  have h3 : ∀ y : Nat → Int32, Sg U y → Sg U (if 0 < t then M_straight y else y) := fun y hy => by
    split
    · exact Sg_straight hy
    · exact hy
  have h4 : ∀ y : Nat → Int32, Sg U y → Sg U (if 3 ≤ y 9 then u1 y 12 0 else y) := fun y hy => by
    split
    · exact ⟨Or.inl rfl, hy.2⟩
    · exact hy
  unfold M_visS
  exact h4 _ (Sg_u (h3 _ h2) (by decide))
theorem Cg_u {c w : Nat → Int32} {nw k : Nat} {v : Int32} (h : Cg c w nw) (hk : k ≠ 0 ∧ k ≠ 1) : Cg (u1 c k v) w nw := by
  unfold Cg
  rw [u1_ne (Ne.symm hk.1), u1_ne (Ne.symm hk.2)]
  exact h
theorem Cg_vis {c w : Nat → Int32} {nw : Nat} {t : Int32} {z : Bool} (h : Cg c w nw) : Cg (M_visC c t z) w nw := by
  unfold M_visC
  dsimp only
  split
  · exact Cg_u (Cg_u h (by decide)) (by decide)
  · exact Cg_u h (by decide)
theorem Gd_sS {B : Bu} {nw sc ni U i : Nat} {s : Nat → Int32} (h : Gd B nw sc ni U) (hs : Sg U s) : Gd (sS B i s) nw sc ni U := by
  refine ⟨Bk_sS h.1 hs.1, h.2.1, fun j hj => ?_⟩
  show Sg U (u1 B.2.2 i s j)
  rw [u1_at]
  split
  · exact hs
  · exact h.2.2 j hj
theorem Gd_sC {B : Bu} {nw sc ni U k : Nat} {v : Int32} (h : Gd B nw sc ni U) (hk : (k ≠ 5 ∧ k ≠ 6 ∧ k ≠ 7 ∧ k ≠ 8) ∧ k ≠ 0 ∧ k ≠ 1) : Gd (sC B (u1 B.1 k v)) nw sc ni U := ⟨Bk_sC h.1 hk.1, Cg_u h.2.1 hk.2, h.2.2⟩
theorem Gd_ins {B : Bu} {nw sc ni U i : Nat} (h : Gd B nw sc ni U) (hi : i < sc) : Gd (P_ins B i nw) nw sc ni U := by
  refine ⟨Bk_ins h.1 hi, Cg_vis h.2.1, fun j hj => ?_⟩
  show Sg U (u1 B.2.2 i (M_visS B.1 (B.2.2 i) (M_tot B.1 B.2.1 (B.2.2 i) nw) (M_stamped (B.2.2 i) (B.1 9))) j)
  rw [u1_at]
  split
  · exact Sg_vis (h.2.2 i hi)
  · exact h.2.2 j hj
theorem Gd_begin {B : Bu} {nw sc ni U n : Nat} (h : Gd B nw sc ni U) : Gd (P_begin n B) nw sc ni U := by
  refine ⟨Bk_begin h.1, Cg_u h.2.1 (by decide), fun j hj => ?_⟩
  show Sg U (if j < n then M_drift (B.2.2 j) else B.2.2 j)
  split
  · exact Sg_drift (h.2.2 j hj)
  · exact h.2.2 j hj
theorem Gd_trade {B : Bu} {nw sc ni U n : Nat} (h : Gd B nw sc ni U) (hU : U < 2000000000) : Gd (P_trade n B) nw sc ni (U + 1) := by
  refine ⟨Bk_trade h.1, h.2.1, fun j hj => ?_⟩
  show Sg (U + 1) (if j < n then M_trade B.1 (B.2.2 j) else B.2.2 j)
  split
  · unfold M_trade
    split
    · exact (h.2.2 j hj).mono (Nat.le_succ U)
    · exact Sg_sell (h.2.2 j hj) hU
  · exact (h.2.2 j hj).mono (Nat.le_succ U)
theorem Gd_seed {B : Bu} {nw sc ni U sd : Nat} (h : Gd B nw sc ni U) (hs : sd ≤ 65536) : Gd (sC B (u1 B.1 6 (nI sd))) nw sc ni U := ⟨Bk_seed h.1 hs, Cg_u h.2.1 (by decide), h.2.2⟩
theorem Gd_choose {B : Bu} {nw sc ni U : Nat} (h : Gd B nw sc ni U) : Gd (P_choose B sc).2 nw sc ni U := by
  unfold P_choose
  split
  · exact h
  · exact Gd_seed h (M_seed_lt _)
theorem Gd_sent1 {nw sc ni U : Nat} {q : Nat × Bu} (h : Gd q.2 nw sc ni U) : Gd (P_sent1 nw sc q).2 nw sc ni U := by
  cases e : (P_choose q.2 sc).1 with
  | none => rw [P_sent1_n e]; exact Gd_choose h
  | some i => rw [P_sent1_s e]; exact Gd_ins (Gd_choose h) (P_choose_lt h.1.2.2.2.2.1 e)
theorem Gd_sent {nw sc ni U : Nat} : ∀ (n : Nat) (q : Nat × Bu), Gd q.2 nw sc ni U → Gd (P_sent nw sc n q).2 nw sc ni U
  | 0, _, h => h
  | n + 1, q, h => Gd_sent n (P_sent1 nw sc q) (Gd_sent1 h)
theorem Gd_day {nw sc ni U : Nat} {q : Nat × Bu} (h : Gd q.2 nw sc ni U) (hU : U < 2000000000) : Gd (P_day nw sc ni q).2 nw sc ni (U + 1) := Gd_sent ni _ (Gd_trade (Gd_begin h) hU)
theorem Gd_pass {nw sc ni : Nat} : ∀ (n U : Nat) (q : Nat × Bu), Gd q.2 nw sc ni U → U + n ≤ 2000000000 → Gd (P_pass nw sc ni n q).2 nw sc ni (U + n)
  | 0, _, _, h, _ => h
  | n + 1, U, q, h, hU => by
    have := Gd_pass n (U + 1) _ (Gd_day h (by omega)) (by omega)
    rw [show U + (n + 1) = U + 1 + n by omega]
    exact this
theorem Gd_repair {B : Bu} {nw sc ni U i : Nat} (h : Gd B nw sc ni U) (hi : i < sc) : Gd (P_repair B i) nw sc ni U := by
  have h1 : Gd (sS B i (u1 (M_straight (B.2.2 i)) 0 (B.2.2 i 0 - 10))) nw sc ni U := Gd_sS h (Sg_u (Sg_straight (h.2.2 i hi)) (by decide))
  exact Gd_sC (B := sS B i (u1 (M_straight (B.2.2 i)) 0 (B.2.2 i 0 - 10))) h1 (by decide)
