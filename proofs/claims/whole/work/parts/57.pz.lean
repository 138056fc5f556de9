/-! PURSES: their bounds -/
def Cz (c : Nat → Int32) : Prop := (0 ≤ (c 2).toInt ∧ (c 2).toInt ≤ 99) ∧ 0 ≤ (c 4).toInt ∧ (c 4).toInt ≤ 50
def Pz (U : Nat) (s : Nat → Int32) : Prop := (0 ≤ (s 4).toInt ∧ (s 4).toInt ≤ 5000) ∧ (0 ≤ (s 5).toInt ∧ (s 5).toInt ≤ 50) ∧ (0 ≤ (s 6).toInt ∧ (s 6).toInt ≤ 100) ∧ (0 ≤ (s 9).toInt ∧ (s 9).toInt ≤ 3) ∧ (¬ s 12 = 0 → (s 9).toInt ≤ 2) ∧ -(2125 * (U : Int)) - 16434 * (s 9).toInt ≤ (s 0).toInt ∧ (s 0).toInt ≤ 9999 + 2125 * (U : Int)
def Pb (U : Nat) (B : Bu) (sc : Nat) : Prop := Cz B.1 ∧ ∀ i, i < sc → Pz U (B.2.2 i)
theorem Pz.mono {U V : Nat} {s : Nat → Int32} (h : Pz U s) (hV : U ≤ V) : Pz V s := by
  obtain ⟨a, b, c, d, e, f, g⟩ := h
  exact ⟨a, b, c, d, e, by omega, by omega⟩
theorem Pb.mono {U V sc : Nat} {B : Bu} (h : Pb U B sc) (hV : U ≤ V) : Pb V B sc := ⟨h.1, fun i hi => (h.2 i hi).mono hV⟩
theorem Pz.eq {U : Nat} {s s' : Nat → Int32} (h : Pz U s) (e4 : s' 4 = s 4) (e5 : s' 5 = s 5) (e6 : s' 6 = s 6) (e9 : s' 9 = s 9) (e12 : s' 12 = s 12) (e0 : s' 0 = s 0) : Pz U s' := by
  unfold Pz
  rw [e4, e5, e6, e9, e12, e0]
  exact h
theorem M_false_b {U V : Nat} {s : Nat → Int32} {d : Int32} (hs : Sg U s) (hp : Pz V s) : -750 ≤ (M_false s d).toInt ∧ (M_false s d).toInt ≤ 850 := by
  have e := M_err_b hs hp.1.1 hp.1.2
  have t := hp.2.2.1
  have q : 0 ≤ (if M_uses s d = true then s 6 else 0).toInt ∧ (if M_uses s d = true then s 6 else 0).toInt ≤ 100 := by
    split
    · exact t
    · exact ⟨by decide, by decide⟩
  unfold M_false
  rw [i_addI (by omega) (by omega)]
  omega
theorem M_gain_b {U V : Nat} {c s : Nat → Int32} {d : Int32} (hc : Cz c) (hs : Sg U s) (hp : Pz V s) : -2125 ≤ (M_gain c s (M_false s d)).toInt ∧ (M_gain c s (M_false s d)).toInt ≤ 2125 := by
  have f := M_false_b (d := d) hs hp
  have s5 := hp.2.1
  have c4 := hc.2
  unfold M_gain
  generalize M_false s d = x at *
  have e := i_pm (A := 50) (B := 850) (a := (s 5).toInt) (b := x.toInt) (by omega) (by omega) (by omega) (by omega)
  rw [show ((50 * 850 : Nat) : Int) = 42500 from rfl] at e
  have m : (s 5 * x).toInt = (s 5).toInt * x.toInt := i_mulI (by omega) (by omega)
  rw [← m] at e
  generalize s 5 * x = y at *
  have e2 := i_pm (A := 42500) (B := 50) (a := y.toInt) (b := (c 4).toInt) (by omega) (by omega) (by omega) (by omega)
  rw [show ((42500 * 50 : Nat) : Int) = 2125000 from rfl] at e2
  have m2 : (y * c 4).toInt = y.toInt * (c 4).toInt := i_mulI (by omega) (by omega)
  rw [← m2] at e2
  generalize y * c 4 = z at *
  have e3 : (1000 : Int32).toInt = 1000 := rfl
  rw [i_divI (by omega) (by rw [e3]; omega), e3]
  split <;> omega
theorem Pz_sell {U V : Nat} {c s : Nat → Int32} (hc : Cz c) (hs : Sg V s) (hp : Pz U s) (hU : U ≤ 900000) : Pz (U + 1) (M_sell c s) := by
  have g := M_gain_b (d := c 9) hc hs hp
  have h1 : Pz (U + 1) (u1 (u1 s 0 (s 0 + M_gain c s (M_false s (c 9)))) 14 (s 14 + M_gain c s (M_false s (c 9)))) := by
    obtain ⟨h4, h5, h6, h9, h12, ha, hb⟩ := hp
    refine ⟨h4, h5, h6, h9, h12, ?_, ?_⟩
    · show _ ≤ (s 0 + M_gain c s (M_false s (c 9))).toInt
      show -(2125 * ((U + 1 : Nat) : Int)) - 16434 * (s 9).toInt ≤ _
      rw [i_addI (by omega) (by omega)]
      omega
    · show (s 0 + M_gain c s (M_false s (c 9))).toInt ≤ _
      rw [i_addI (by omega) (by omega)]
      omega
  unfold M_sell
  dsimp only
  split
  · exact h1.eq rfl rfl rfl rfl rfl rfl
  · exact h1
theorem M_fine_b {c : Nat → Int32} {t : Int32} {st : Bool} (hc : Cz c) (h1 : 0 ≤ t.toInt) (h2 : t.toInt ≤ 4500) : 0 ≤ (M_fine c t st).toInt ∧ (M_fine c t st).toInt ≤ 16434 := by
  have o : 0 ≤ (M_ounces t).toInt ∧ (M_ounces t).toInt ≤ 161 := by
    unfold M_ounces
    have e : (t + 27).toInt = t.toInt + 27 := by rw [i_addI (by rw [show (27 : Int32).toInt = 27 from rfl]; omega) (by rw [show (27 : Int32).toInt = 27 from rfl]; omega)]; rfl
    rw [i_divI (by omega) (by decide), e, show (28 : Int32).toInt = 28 from rfl]
    split <;> omega
  have c2 := hc.1
  unfold M_fine
  generalize M_ounces t = z at *
  have e := i_pm (A := 99) (B := 161) (a := (c 2).toInt) (b := z.toInt) (by omega) (by omega) (by omega) (by omega)
  rw [show ((99 * 161 : Nat) : Int) = 15939 from rfl] at e
  have m : (c 2 * z).toInt = (c 2).toInt * z.toInt := i_mulI (by omega) (by omega)
  have p : 0 ≤ (c 2).toInt * z.toInt := Int.mul_nonneg c2.1 o.1
  rw [← m] at e p
  have e5 : (5 * c 2).toInt = 5 * (c 2).toInt := by rw [i_mulI (by rw [show (5 : Int32).toInt = 5 from rfl]; omega) (by rw [show (5 : Int32).toInt = 5 from rfl]; omega)]; rfl
  have q : 0 ≤ (if st = true then (0 : Int32) else 5 * c 2).toInt ∧ (if st = true then (0 : Int32) else 5 * c 2).toInt ≤ 495 := by
    split
    · exact ⟨by decide, by decide⟩
    · omega
  rw [i_addI (by omega) (by omega)]
  omega
theorem Pz_vis {U : Nat} {c s : Nat → Int32} {t : Int32} {st : Bool} (hc : Cz c) (h1 : 0 ≤ t.toInt) (h2 : t.toInt ≤ 4500) (hp : Pz U s) (ho : ¬ s 12 = 0) (hU : U ≤ 900000) : Pz U (M_visS c s t st) := by
  have f := M_fine_b (st := st) hc h1 h2
  obtain ⟨h4, h5, h6, h9, h12, ha, hb⟩ := hp
  have k2 := h12 ho
  have e9 : (s 9 + 1).toInt = (s 9).toInt + 1 := by rw [i_addI (by rw [i_1]; omega) (by rw [i_1]; omega), i_1]
  have e0 : (s 0 - M_fine c t st).toInt = (s 0).toInt - (M_fine c t st).toInt := i_subI (by omega) (by omega)
  -- all but the shop's closing
  have s2 : (fun y : Nat → Int32 => ((0 ≤ (y 4).toInt ∧ (y 4).toInt ≤ 5000) ∧ (0 ≤ (y 5).toInt ∧ (y 5).toInt ≤ 50) ∧ (0 ≤ (y 6).toInt ∧ (y 6).toInt ≤ 100) ∧ (0 ≤ (y 9).toInt ∧ (y 9).toInt ≤ 3) ∧ -(2125 * (U : Int)) - 16434 * (y 9).toInt ≤ (y 0).toInt ∧ (y 0).toInt ≤ 9999 + 2125 * (U : Int))) (if 0 < t ∨ st = false then u1 (u1 (u1 (u1 (u1 s 10 (c 9)) 8 0) 0 (s 0 - M_fine c t st)) 13 (s 13 + M_fine c t st)) 9 (s 9 + 1) else u1 (u1 s 10 (c 9)) 8 0) := by
    split
    · show (0 ≤ (s 4).toInt ∧ (s 4).toInt ≤ 5000) ∧ (0 ≤ (s 5).toInt ∧ (s 5).toInt ≤ 50) ∧ (0 ≤ (s 6).toInt ∧ (s 6).toInt ≤ 100) ∧ (0 ≤ (s 9 + 1).toInt ∧ (s 9 + 1).toInt ≤ 3) ∧ -(2125 * (U : Int)) - 16434 * (s 9 + 1).toInt ≤ (s 0 - M_fine c t st).toInt ∧ (s 0 - M_fine c t st).toInt ≤ 9999 + 2125 * (U : Int)
      refine ⟨h4, h5, h6, ⟨by omega, by omega⟩, by omega, by omega⟩
    · exact ⟨h4, h5, h6, h9, ha, hb⟩
  have s3 : ∀ y : Nat → Int32, ((0 ≤ (y 4).toInt ∧ (y 4).toInt ≤ 5000) ∧ (0 ≤ (y 5).toInt ∧ (y 5).toInt ≤ 50) ∧ (0 ≤ (y 6).toInt ∧ (y 6).toInt ≤ 100) ∧ (0 ≤ (y 9).toInt ∧ (y 9).toInt ≤ 3) ∧ -(2125 * (U : Int)) - 16434 * (y 9).toInt ≤ (y 0).toInt ∧ (y 0).toInt ≤ 9999 + 2125 * (U : Int)) → Pz U (if 3 ≤ (u1 (if 0 < t then M_straight y else y) 11 (c 9 + c 3)) 9 then u1 (u1 (if 0 < t then M_straight y else y) 11 (c 9 + c 3)) 12 0 else u1 (if 0 < t then M_straight y else y) 11 (c 9 + c 3)) := by
    intro y hy
    have w : ∀ k, k ≠ 1 → k ≠ 2 → (if 0 < t then M_straight y else y) k = y k := by
      intro k k1 k2
      split
      · show (u1 (u1 y 1 0) 2 0) k = y k
        rw [u1_ne k2, u1_ne k1]
      · rfl
    generalize (if 0 < t then M_straight y else y) = x at *
    have x4 := w 4 (by decide) (by decide)
    have x5 := w 5 (by decide) (by decide)
    have x6 := w 6 (by decide) (by decide)
    have x9 := w 9 (by decide) (by decide)
    have x0 := w 0 (by decide) (by decide)
    obtain ⟨y4, y5, y6, y9, ya, yb⟩ := hy
    rw [← x4] at y4
    rw [← x5] at y5
    rw [← x6] at y6
    rw [← x9, ← x0] at ya
    rw [← x9] at y9
    rw [← x0] at yb
    split
    · exact ⟨y4, y5, y6, y9, fun z => absurd rfl z, ya, yb⟩
    · next h3 =>
      have h3 : ¬ 3 ≤ x 9 := h3
      refine ⟨y4, y5, y6, y9, fun _ => ?_, ya, yb⟩
      show (x 9).toInt ≤ 2
      have : ¬ (3 : Int) ≤ (x 9).toInt := fun z => h3 ((i_le _ _).mpr z)
      omega
  unfold M_visS
  exact s3 _ s2
theorem Cz_vis {c : Nat → Int32} {t : Int32} {z : Bool} (h : Cz c) : Cz (M_visC c t z) := by
  unfold M_visC
  dsimp only
  split
  · exact h
  · exact h
theorem Pb_sS {U sc i : Nat} {B : Bu} {s : Nat → Int32} (h : Pb U B sc) (hs : Pz U s) : Pb U (sS B i s) sc := ⟨h.1, fun j hj => by
  show Pz U (u1 B.2.2 i s j)
  rw [u1_at]
  split
  · exact hs
  · exact h.2 j hj⟩
theorem Pb_ins {nw sc ni U V i : Nat} {B : Bu} (hG : Gd B nw sc ni V) (h : Pb U B sc) (hi : i < sc) (ho : ¬ B.2.2 i 12 = 0) (hU : U ≤ 900000) : Pb U (P_ins B i nw) sc := by
  have t := M_tot_b hG.2.1 (hG.2.2 i hi) hG.1.2.1 nw (Nat.le_refl _)
  have n6 := hG.1.2.1
  have p := Pz_vis (st := M_stamped (B.2.2 i) (B.1 9)) h.1 t.1 (by omega) (h.2 i hi) ho hU
  exact ⟨Cz_vis h.1, (Pb_sS h p).2⟩
theorem P_most_can {B : Bu} {i : Nat} : ∀ n, (P_most B n).1 = some i → M_can B.1 (B.2.2 i) = true
  | 0, h => by simp [P_most] at h
  | n + 1, h => by
    rw [P_most] at h
    split at h
    · next c => cases h; exact c.1
    · exact P_most_can n h
theorem P_next_can {B : Bu} {sc i : Nat} : ∀ d j, P_next B sc d j = some i → M_can B.1 (B.2.2 i) = true
  | 0, _, h => by simp [P_next] at h
  | d + 1, j, h => by
    rw [P_next] at h
    split at h
    · next c => cases h; exact c
    · exact P_next_can d _ h
theorem P_choose_open {B : Bu} {sc i : Nat} (h : (P_choose B sc).1 = some i) : ¬ (P_choose B sc).2.2.2 i 12 = 0 := by
  have k : ∀ c s, M_can c s = true → ¬ s 12 = 0 := fun c s z => by
    unfold M_can at z
    rw [Bool.and_eq_true] at z
    exact of_decide_eq_true z.1
  unfold P_choose at *
  split at h
  · next c =>
    rw [if_pos c]
    exact k _ _ (P_most_can sc h)
  · next c =>
    rw [if_neg c]
    exact k _ _ (P_next_can sc _ h)
theorem Pb_choose {U sc n : Nat} {B : Bu} (h : Pb U B sc) : Pb U (P_choose B n).2 sc := by
  unfold P_choose
  split
  · exact h
  · exact h
theorem Pb_sent1 {nw sc ni U V : Nat} {q : Nat × Bu} (hG : Gd q.2 nw sc ni V) (h : Pb U q.2 sc) (hU : U ≤ 900000) : Pb U (P_sent1 nw sc q).2 sc := by
  cases e : (P_choose q.2 sc).1 with
  | none => rw [P_sent1_n e]; exact Pb_choose h
  | some i => rw [P_sent1_s e]; exact Pb_ins (Gd_choose hG) (Pb_choose h) (P_choose_lt hG.1.2.2.2.2.1 e) (P_choose_open e) hU
theorem Pb_sent {nw sc ni U V : Nat} (hU : U ≤ 900000) : ∀ (n : Nat) (q : Nat × Bu), Gd q.2 nw sc ni V → Pb U q.2 sc → Pb U (P_sent nw sc n q).2 sc
  | 0, _, _, h => h
  | n + 1, q, hG, h => Pb_sent hU n (P_sent1 nw sc q) (Gd_sent1 hG) (Pb_sent1 hG h hU)
theorem Pb_begin {nw sc ni U V n : Nat} {B : Bu} (_ : Gd B nw sc ni V) (h : Pb U B sc) : Pb U (P_begin n B) sc := by
  refine ⟨h.1, fun i hi => ?_⟩
  show Pz U (if i < n then M_drift (B.2.2 i) else B.2.2 i)
  split
  · exact (h.2 i hi).eq rfl rfl rfl rfl rfl rfl
  · exact h.2 i hi
theorem Pb_trade {nw sc ni U V n : Nat} {B : Bu} (hG : Gd B nw sc ni V) (h : Pb U B sc) (hU : U ≤ 900000) : Pb (U + 1) (P_trade n B) sc := by
  refine ⟨h.1, fun i hi => ?_⟩
  show Pz (U + 1) (if i < n then M_trade B.1 (B.2.2 i) else B.2.2 i)
  split
  · unfold M_trade
    split
    · exact (h.2 i hi).mono (Nat.le_succ U)
    · exact Pz_sell h.1 (hG.2.2 i hi) (h.2 i hi) hU
  · exact (h.2 i hi).mono (Nat.le_succ U)
theorem Pb_day {nw sc ni U V : Nat} {q : Nat × Bu} (hG : Gd q.2 nw sc ni V) (h : Pb U q.2 sc) (hV : V < 2000000000) (hU : U < 900000) : Pb (U + 1) (P_day nw sc ni q).2 sc := Pb_sent hU ni _ (Gd_trade (Gd_begin hG) hV) (Pb_trade (Gd_begin hG) (Pb_begin hG h) (Nat.le_of_lt hU))
theorem Pb_pass {nw sc ni : Nat} : ∀ (n U V : Nat) (q : Nat × Bu), Gd q.2 nw sc ni V → Pb U q.2 sc → V + n ≤ 2000000000 → U + n ≤ 900000 → Pb (U + n) (P_pass nw sc ni n q).2 sc
  | 0, _, _, _, _, h, _, _ => h
  | n + 1, U, V, q, hG, h, hV, hU => by
    have := Pb_pass n (U + 1) (V + 1) _ (Gd_day hG (by omega)) (Pb_day hG h (by omega) (by omega)) (by omega) (by omega)
    rw [show U + (n + 1) = U + 1 + n by omega]
    exact this
theorem Pz_open {U : Nat} {s : Nat → Int32} (hp : Pz U s) : Pz (U + 24) (M_open s) := by
  obtain ⟨h4, h5, h6, h9, h12, ha, hb⟩ := hp
  refine ⟨h4, h5, h6, ⟨by show (0 : Int) ≤ (0 : Int32).toInt; decide, by show (0 : Int32).toInt ≤ 3; decide⟩, fun _ => by show (0 : Int32).toInt ≤ 2; decide, ?_, ?_⟩
  · show -(2125 * ((U + 24 : Nat) : Int)) - 16434 * (0 : Int32).toInt ≤ (s 0).toInt
    rw [i_0]
    omega
  · show (s 0).toInt ≤ _
    omega
theorem Pz_10 {U : Nat} {s : Nat → Int32} (hp : Pz U s) (h10 : 10 ≤ s 0) (hU : U ≤ 900000) : Pz U (u1 (M_straight s) 0 (s 0 - 10)) := by
  obtain ⟨h4, h5, h6, h9, h12, ha, hb⟩ := hp
  have h10 : (10 : Int) ≤ (s 0).toInt := (i_le _ _).mp h10
  have e : (s 0 - 10).toInt = (s 0).toInt - 10 := i_subI (by rw [show (10 : Int32).toInt = 10 from rfl]; omega) (by rw [show (10 : Int32).toInt = 10 from rfl]; omega)
  refine ⟨h4, h5, h6, h9, h12, ?_, ?_⟩
  · show -(2125 * (U : Int)) - 16434 * (s 9).toInt ≤ (s 0 - 10).toInt
    omega
  · show (s 0 - 10).toInt ≤ _
    omega
theorem Pb_repair {U sc i : Nat} {B : Bu} (h : Pb U B sc) (hi : i < sc) (hp : M_canPay (B.2.2 i) = true) (hU : U ≤ 900000) : Pb U (P_repair B i) sc := by
  unfold M_canPay at hp
  rw [Bool.and_eq_true] at hp
  exact ⟨h.1, (Pb_sS h (Pz_10 (h.2 i hi) (of_decide_eq_true hp.2) hU)).2⟩
theorem Pz_thumb {U : Nat} {s : Nat → Int32} {v : Int32} (hp : Pz U s) (h1 : 0 ≤ v) (h2 : v ≤ 100) : Pz U (u1 s 6 v) := by
  obtain ⟨h4, h5, h6, h9, h12, ha, hb⟩ := hp
  exact ⟨h4, h5, ⟨(i_le _ _).mp h1, (i_le _ _).mp h2⟩, h9, h12, ha, hb⟩
theorem Pb_do {nw sc ni U V v a nm : Nat} {B : Bu} (hG : Gd B nw sc ni V) (h : Pb U B sc) (hV : V + 101 ≤ 2000000000) (hU : U + 101 ≤ 900000) (ha : v ≠ 0 → a < sc) (hn : nm ≤ 100) : Pb (U + 101) (P_do nw sc ni v a (nI nm) B).2 sc := by
  have m : Pb (U + 101) B sc := h.mono (Nat.le_add_right _ _)
  unfold P_do
  split
  · show Pb (U + 101) (P_pass nw sc ni (nI nm).toNatClampNeg (0, B)).2 sc
    rw [nI_clamp (by omega)]
    exact (Pb_pass nm U V (0, B) hG h (by omega) (by omega)).mono (by omega)
  · next v0 =>
    have hi := ha v0
    split
    · split
      · exact m
      · next o => exact (Pb_ins hG h hi o (by omega)).mono (by omega)
    · split
      · split
        · next p => exact (Pb_repair h hi p (by omega)).mono (by omega)
        · exact m
      · split
        · refine Pb_sS m (Pz_thumb (m.2 a hi) ?_ ?_)
          · exact (nI_leI (a := 0) (b := nm) (by omega) (by omega)).mpr (Nat.zero_le _)
          · exact (nI_leI (a := nm) (b := 100) (by omega) (by omega)).mpr hn
        · split
          · split
            · exact m
            · exact Pb_sS m ((m.2 a hi).eq rfl rfl rfl rfl rfl rfl)
          · split
            · exact Pb_sS m ((Pz_open (h.2 a hi)).mono (by omega))
            · exact m
theorem Gd_do1 {B : Bu} {nw sc ni U v a nm : Nat} (h : Gd B nw sc ni U) (hU : U + 101 ≤ 1999999990) (ha : v ≠ 0 → a < sc) (hn : nm ≤ 100) : Gd (P_do nw sc ni v a (nI nm) B).2 nw sc ni (U + 101) := (Gd_do h (by omega) ha hn).mono (by omega)
theorem Pb_copy {U nw sc : Nat} {B X : Bu} (h : Pb U X sc) : Pb U (P_copy nw sc B X) sc := by
  refine ⟨h.1, fun i hi => ?_⟩
  show Pz U (if i < sc then M_copy 16 (B.2.2 i) (X.2.2 i) else B.2.2 i)
  rw [if_pos hi]
  exact (h.2 i hi).eq rfl rfl rfl rfl rfl rfl
theorem Q_purse_b {nw sc ni U V i days : Nat} {B : Bu} (hG : Gd B nw sc ni V) (h : Pb U B sc) (hV : V + days ≤ 2000000000) (hU : U + days ≤ 900000) (hi : i < sc) : ¬ Q_purse B nw sc ni i days ≤ -2000000000 := by
  have p := (Pb_pass days U V (0, B) hG h hV hU).2 i hi
  obtain ⟨h4, h5, h6, h9, h12, ha, hb⟩ := p
  intro z
  have z : (Q_purse B nw sc ni i days).toInt ≤ -2000000000 := (i_le _ _).mp z
  unfold Q_purse at z
  omega
theorem Pb.p0 {U sc i : Nat} {B : Bu} (h : Pb U B sc) (hU : U ≤ 900000) (hi : i < sc) : -2147483648 < (B.2.2 i 0).toInt := by
  obtain ⟨h4, h5, h6, h9, h12, ha, hb⟩ := h.2 i hi
  omega
theorem Pb_run {nw sc ni : Nat} {S : Sq} (hS : SqOk sc S) : ∀ (d i U V : Nat) (B : Bu), i + d = S.1 → Gd B nw sc ni V → Pb U B sc → V + 101 * d ≤ 1999999000 → U + 101 * d ≤ 900000 → Pb (U + 101 * d) (P_run nw sc ni S d i B).2 sc ∧ Gd (P_run nw sc ni S d i B).2 nw sc ni (V + 101 * d)
  | 0, _, _, _, _, _, hG, h, _, _ => ⟨h, hG⟩
  | d + 1, i, U, V, B, hd, hG, h, hV, hU => by
    obtain ⟨v, a, nm, h6, z1, z2, z3, hn, ha0, ha⟩ := hS i (by omega)
    rw [P_run_S z1 z2 z3 h6 (P_arg ha0 ha hG.1.2.2.2.1)]
    have p := Pb_do hG h (by omega) (by omega) ha hn
    have g := Gd_do1 hG (by omega) ha hn
    split
    · have := Pb_run hS d (i + 1) (U + 101) (V + 101) _ (by omega) g p (by omega) (by omega)
      rw [show U + 101 * (d + 1) = U + 101 + 101 * d by omega, show V + 101 * (d + 1) = V + 101 + 101 * d by omega]
      exact this
    · exact ⟨p.mono (by omega), g.mono (by omega)⟩
