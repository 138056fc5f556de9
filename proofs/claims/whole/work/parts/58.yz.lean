/-! SETUPS that are good give good bureaus; a script of n bytes has at most n / 4 commands -/
theorem nat_of {v : Int32} (h : 0 ≤ v.toInt) : v = nI v.toInt.toNat := by
  have h2 : v.toInt < 2147483648 := v.toInt_lt
  apply Int32.toInt_inj.mp
  rw [nI_toInt (by omega)]
  omega
theorem Y_in_b {lo hi : Int32} {q : Ps} (h : (Y_in lo hi q).1 = true) : lo ≤ q.1.2.2.2 ∧ q.1.2.2.2 ≤ hi := by
  unfold Y_in at h
  split at h
  · split at h
    · next c => exact c
    · cases h
  · cases h
theorem Y_row_b {T : Nat → Int32} {n : Nat} {l : List Int32} : ∀ (d i : Nat) (q : Ps) (V : Nat → Int32), (Y_row T n l d i q V).1 = true → (∀ k, i ≤ k → k < i + d → l.getD (2 * k) 0 ≤ (Y_row T n l d i q V).2.2 k ∧ (Y_row T n l d i q V).2.2 k ≤ l.getD (2 * k + 1) 0) ∧ ∀ k, k < i → (Y_row T n l d i q V).2.2 k = V k
  | 0, i, q, V, _ => ⟨fun k h1 h2 => by omega, fun _ _ => rfl⟩
  | d + 1, i, q, V, h => by
    by_cases c : (Y_in (l.getD (2 * i) 0) (l.getD (2 * i + 1) 0) q).1 = true
    · rw [Y_row_t c] at h ⊢
      obtain ⟨a1, a2⟩ := Y_row_b d (i + 1) _ _ h
      refine ⟨fun k h1 h2 => ?_, fun k hk => ?_⟩
      · by_cases e : k = i
        · rw [a2 k (by omega), e, u1_same]
          exact Y_in_b c
        · exact a1 k (by omega) (by omega)
      · rw [a2 k (by omega), u1_ne (by omega)]
    · rw [Y_row_f (Bool.eq_false_iff.mpr c)] at h
      cases h
theorem Y_bur_t9 {T : Nat → Int32} {n : Nat} {q : Ps} {V : Nat → Int32} {B : Bu} (h : (Y_bur T n q V B).1 = true) : ∃ r : Nat → Int32, (∀ k, k < 7 → RB.getD (2 * k) 0 ≤ r k ∧ r k ≤ RB.getD (2 * k + 1) 0) ∧ (Y_bur T n q V B).2.2.2 = (M_beginB B.1 r, B.2) := by
  unfold Y_bur at h ⊢
  dsimp only at h ⊢
  split at h
  · next h1 =>
    split at h
    · next h2 =>
      split at h
      · next h3 =>
        rw [if_pos h1, if_pos h2, if_pos h3]
        exact ⟨_, fun k hk => (Y_row_b 7 0 _ _ h2).1 k (by omega) (by omega), rfl⟩
      · cases h
    · cases h
  · cases h
theorem Y_shop1_t9 {T : Nat → Int32} {n i : Nat} {q : Ps} {V : Nat → Int32} {B : Bu} (h : (Y_shop1 T n i q V B).1 = true) : ∃ r : Nat → Int32, (∀ k, k < 8 → RS.getD (2 * k) 0 ≤ r k ∧ r k ≤ RS.getD (2 * k + 1) 0) ∧ (Y_shop1 T n i q V B).2.2.2 = P_addS B i r := by
  unfold Y_shop1 at h ⊢
  dsimp only at h ⊢
  split at h
  · next h1 =>
    split at h
    · next h2 =>
      split at h
      · next h3 =>
        rw [if_pos h1, if_pos h2, if_pos h3]
        exact ⟨_, fun k hk => (Y_row_b 8 0 _ _ h2).1 k (by omega) (by omega), rfl⟩
      · cases h
    · cases h
  · cases h
/-- weights so far are within bounds -/
def Wb (w : Nat → Int32) (nw : Nat) : Prop := ∀ j, j < nw → 0 ≤ (w j).toInt ∧ (w j).toInt ≤ 5000
theorem Wb_weight {T : Nat → Int32} {n nw : Nat} {q : Ps} {B : Bu} (hW : Wb B.2.1 nw) : Wb (Y_weight T n q B nw).2.2.1.2.1 (Y_weight T n q B nw).2.2.2 := by
  unfold Y_weight
  split
  · next c =>
    split
    · exact hW
    · split
      · have b := Y_in_b c
        have b1 : (1 : Int) ≤ q.1.2.2.2.toInt := (i_le _ _).mp b.1
        have b2 : q.1.2.2.2.toInt ≤ 5000 := (i_le _ _).mp b.2
        intro j hj
        show 0 ≤ (u1 B.2.1 nw q.1.2.2.2 j).toInt ∧ (u1 B.2.1 nw q.1.2.2.2 j).toInt ≤ 5000
        rw [u1_at]
        split
        · omega
        · exact hW j (by have hj : j < nw + 1 := hj; omega)
      · exact hW
  · exact hW
theorem Wb_wl {T : Nat → Int32} {n : Nat} : ∀ {d : Nat} {q : Ps} {B : Bu} {nw : Nat}, Wb B.2.1 nw → Wb (Y_wl T n d q B nw).2.2.1.2.1 (Y_wl T n d q B nw).2.2.2
  | 0, _, _, _, h => h
  | d + 1, q, B, nw, h => by
    rw [Y_wl]
    split
    · split
      · exact Wb_wl (Wb_weight h)
      · exact Wb_weight h
    · exact h
theorem Wb_weights {T : Nat → Int32} {n nw : Nat} {q : Ps} {B : Bu} (h : Wb B.2.1 nw) : Wb (Y_weights T n q B nw).2.2.1.2.1 (Y_weights T n q B nw).2.2.2 := by
  unfold Y_weights
  split
  · split
    · exact Wb_wl (Wb_weight h)
    · exact Wb_weight h
  · exact h
theorem Sg_begin {s r : Nat → Int32} (h : ∀ k, k < 8 → RS.getD (2 * k) 0 ≤ r k ∧ r k ≤ RS.getD (2 * k + 1) 0) : Sg 0 (M_begin s r) ∧ Pz 0 (M_begin s r) := by
  have g : ∀ k (hk : k < 8), (RS.getD (2 * k) 0).toInt ≤ (r k).toInt ∧ (r k).toInt ≤ (RS.getD (2 * k + 1) 0).toInt := fun k hk => ⟨(i_le _ _).mp (h k hk).1, (i_le _ _).mp (h k hk).2⟩
  have g0 : 0 ≤ (r 0).toInt ∧ (r 0).toInt ≤ 9999 := g 0 (by decide)
  have g1 : 0 ≤ (r 1).toInt ∧ (r 1).toInt ≤ 1000 := g 1 (by decide)
  have g2 : 0 ≤ (r 2).toInt ∧ (r 2).toInt ≤ 100 := g 2 (by decide)
  have g4 : 1 ≤ (r 4).toInt ∧ (r 4).toInt ≤ 5000 := g 4 (by decide)
  have g5 : 0 ≤ (r 5).toInt ∧ (r 5).toInt ≤ 50 := g 5 (by decide)
  have g6 : 0 ≤ (r 6).toInt ∧ (r 6).toInt ≤ 100 := g 6 (by decide)
  have e1 : (r 1 - 500).toInt = (r 1).toInt - 500 := i_subI (by rw [show (500 : Int32).toInt = 500 from rfl]; omega) (by rw [show (500 : Int32).toInt = 500 from rfl]; omega)
  have e2 : (r 2 - 50).toInt = (r 2).toInt - 50 := i_subI (by rw [show (50 : Int32).toInt = 50 from rfl]; omega) (by rw [show (50 : Int32).toInt = 50 from rfl]; omega)
  refine ⟨⟨Or.inr rfl, ?_, ?_, ⟨by show 0 ≤ (0 : Int32).toInt; decide, by show (0 : Int32).toInt ≤ 0; decide⟩⟩, ⟨?_, g5, g6, ⟨by show 0 ≤ (0 : Int32).toInt; decide, by show (0 : Int32).toInt ≤ 3; decide⟩, fun _ => by show (0 : Int32).toInt ≤ 2; decide, ?_, ?_⟩⟩
  · show -500 ≤ (r 1 - 500).toInt ∧ (r 1 - 500).toInt ≤ 500
    omega
  · show -50 ≤ (r 2 - 50).toInt ∧ (r 2 - 50).toInt ≤ 50
    omega
  · show 0 ≤ (r 4).toInt ∧ (r 4).toInt ≤ 5000
    omega
  · show -(2125 * ((0 : Nat) : Int)) - 16434 * (0 : Int32).toInt ≤ (r 0).toInt
    rw [i_0]; omega
  · show (r 0).toInt ≤ _
    omega
/-- what a setup has built when i shops stand -/
def Sh (B : Bu) (nw i : Nat) : Prop := B.1 7 = nI nw ∧ nw ≤ 6 ∧ B.1 8 = nI i ∧ (∃ ni, ni ≤ 3 ∧ B.1 5 = nI ni) ∧ (∃ sd, sd ≤ 65536 ∧ B.1 6 = nI sd) ∧ Cg B.1 B.2.1 nw ∧ Cz B.1 ∧ ∀ j, j < i → Sg 0 (B.2.2 j) ∧ Pz 0 (B.2.2 j)
theorem Sh_S {B : Bu} {nw i : Nat} {r : Nat → Int32} (h : Sh B nw i) (hr : ∀ k, k < 8 → RS.getD (2 * k) 0 ≤ r k ∧ r k ≤ RS.getD (2 * k + 1) 0) : Sh (P_addS B i r) nw (i + 1) := by
  obtain ⟨a1, a2, a3, a4, a5, a6, a7, a8⟩ := h
  refine ⟨a1, a2, rfl, a4, a5, a6, a7, fun j hj => ?_⟩
  show Sg 0 (u1 B.2.2 i (M_begin (B.2.2 i) r) j) ∧ Pz 0 (u1 B.2.2 i (M_begin (B.2.2 i) r) j)
  rw [u1_at]
  split
  · exact Sg_begin hr
  · exact a8 j (by omega)
theorem Sh_good {B : Bu} {nw i : Nat} (h : Sh B nw i) (h0 : 0 < i) (h8 : i ≤ 8) : ∃ ni, Gd B nw i ni 0 ∧ Pb 0 B i := by
  obtain ⟨a1, a2, a3, ⟨ni, n3, a4⟩, a5, a6, a7, a8⟩ := h
  exact ⟨ni, ⟨⟨a1, a2, a3, h8, h0, a4, n3, a5, fun j hj => (a8 j hj).1.1⟩, a6, fun j hj => (a8 j hj).1⟩, a7, fun j hj => (a8 j hj).2⟩
theorem Y_sh_good {T : Nat → Int32} {n nw : Nat} : ∀ (d i : Nat) (q : Ps) (V : Nat → Int32) (B : Bu), i + d = 8 → Sh B nw i → (Y_sh T n d i q V B).1 = true → ∃ sc ni, Gd (Y_sh T n d i q V B).2.2.2 nw sc ni 0 ∧ Pb 0 (Y_sh T n d i q V B).2.2.2 sc
  | 0, i, q, V, B, hd, h, e => by
    rw [Y_sh] at e ⊢
    split at e
    · next c =>
      rw [if_pos c]
      obtain ⟨ni, g⟩ := Sh_good h (by omega) (by omega)
      exact ⟨i, ni, g⟩
    · cases e
  | d + 1, i, q, V, B, hd, h, e => by
    rw [Y_sh] at e ⊢
    split at e
    · next c =>
      rw [if_pos c]
      obtain ⟨ni, g⟩ := Sh_good h c.1 (by omega)
      exact ⟨i, ni, g⟩
    · next c =>
      rw [if_neg c]
      split at e
      · next c2 =>
        rw [if_pos c2]
        obtain ⟨r, hr, e3⟩ := Y_shop1_t9 c2
        rw [e3] at e ⊢
        exact Y_sh_good d (i + 1) _ _ _ (by omega) (Sh_S h hr) e
      · cases e
theorem weight_t {T : Nat → Int32} {n nw : Nat} {q : Ps} {B : Bu} (h : (Y_weight T n q B nw).1 = true) : (Y_weight T n q B nw).2.2.2 = nw + 1 := by
  unfold Y_weight at h ⊢
  split at h
  · next c =>
    rw [if_pos c]
    split at h
    · cases h
    · next c2 =>
      rw [if_neg c2]
      split at h
      · next c3 => rw [if_pos c3]
      · cases h
  · cases h
theorem weight_ge {T : Nat → Int32} {n nw : Nat} {q : Ps} {B : Bu} : nw ≤ (Y_weight T n q B nw).2.2.2 := by
  unfold Y_weight
  split
  · split
    · exact Nat.le_refl _
    · split
      · exact Nat.le_succ _
      · exact Nat.le_refl _
  · exact Nat.le_refl _
theorem wl_ge {T : Nat → Int32} {n : Nat} : ∀ {d : Nat} {q : Ps} {B : Bu} {nw : Nat}, nw ≤ (Y_wl T n d q B nw).2.2.2
  | 0, _, _, _ => Nat.le_refl _
  | d + 1, q, B, nw => by
    rw [Y_wl]
    split
    · split
      · exact Nat.le_trans weight_ge wl_ge
      · exact weight_ge
    · exact Nat.le_refl _
theorem weights_t {T : Nat → Int32} {n nw : Nat} {q : Ps} {B : Bu} (h : (Y_weights T n q B nw).1 = true) : 0 < (Y_weights T n q B nw).2.2.2 := by
  unfold Y_weights at h ⊢
  split at h
  · next c =>
    rw [if_pos c]
    split at h
    · next c2 =>
      rw [if_pos c2]
      have e := weight_t c2
      have g := wl_ge (T := T) (n := n) (d := 6) (q := (Y_weight T n (Y_word T n 2 q).2 B nw).2.1) (B := (Y_weight T n (Y_word T n 2 q).2 B nw).2.2.1) (nw := (Y_weight T n (Y_word T n 2 q).2 B nw).2.2.2)
      omega
    · cases h
  · cases h
theorem Y_setup_good {T : Nat → Int32} {n : Nat} {q : Ps} {V : Nat → Int32} {B : Bu} (h : (Y_setup T n q V B).1 = true) : ∃ nw sc ni, 0 < nw ∧ Gd (Y_setup T n q V B).2.2.2 nw sc ni 0 ∧ Pb 0 (Y_setup T n q V B).2.2.2 sc := by
  unfold Y_setup at h ⊢
  dsimp only at h ⊢
  split at h
  · next h1 =>
    rw [if_pos h1]
    split at h
    · next h2 =>
      rw [if_pos h2]
      obtain ⟨r, hr, e⟩ := Y_bur_t9 h1
      have g : ∀ k (hk : k < 7), (RB.getD (2 * k) 0).toInt ≤ (r k).toInt ∧ (r k).toInt ≤ (RB.getD (2 * k + 1) 0).toInt := fun k hk => ⟨(i_le _ _).mp (hr k hk).1, (i_le _ _).mp (hr k hk).2⟩
      have g0 : 0 ≤ (r 0).toInt ∧ (r 0).toInt ≤ 50 := g 0 (by decide)
      have g1 : 0 ≤ (r 1).toInt ∧ (r 1).toInt ≤ 50 := g 1 (by decide)
      have g2 : 0 ≤ (r 2).toInt ∧ (r 2).toInt ≤ 99 := g 2 (by decide)
      have g4 : 1 ≤ (r 4).toInt ∧ (r 4).toInt ≤ 50 := g 4 (by decide)
      have g5 : 0 ≤ (r 5).toInt ∧ (r 5).toInt ≤ 3 := g 5 (by decide)
      have g6 : 0 ≤ (r 6).toInt ∧ (r 6).toInt ≤ 65536 := g 6 (by decide)
      generalize hb : Y_bur T n (Y_start T n q) V B = a at *
      obtain ⟨a1, a2, a3, a4⟩ := a
      have e : a4 = (M_beginB B.1 r, B.2) := e
      subst e
      have iv := Y_weights_inv (T := T) (n := n) (q := a2) (B := (M_beginB B.1 r, B.2)) (nw := 0) rfl (by decide)
      have wb := Wb_weights (T := T) (n := n) (q := a2) (B := (M_beginB B.1 r, B.2)) (nw := 0) (fun j hj => by omega)
      have kk : ∀ k, k ≠ 7 → (Y_weights T n a2 (M_beginB B.1 r, B.2) 0).2.2.1.1 k = M_beginB B.1 r k := iv.2.2.1
      have wt := weights_t h2
      have gg : ∃ sc ni, Gd (Y_sh T n 8 0 (Y_weights T n a2 (M_beginB B.1 r, B.2) 0).2.1 a3 (Y_weights T n a2 (M_beginB B.1 r, B.2) 0).2.2.1).2.2.2 (Y_weights T n a2 (M_beginB B.1 r, B.2) 0).2.2.2 sc ni 0 ∧ Pb 0 (Y_sh T n 8 0 (Y_weights T n a2 (M_beginB B.1 r, B.2) 0).2.1 a3 (Y_weights T n a2 (M_beginB B.1 r, B.2) 0).2.2.1).2.2.2 sc := by
        refine Y_sh_good 8 0 _ _ _ rfl ⟨iv.1, iv.2.1, ?_, ⟨(r 5).toInt.toNat, by omega, ?_⟩, ⟨(r 6).toInt.toNat, by omega, ?_⟩, ⟨?_, ?_, wb⟩, ⟨?_, ?_⟩, fun j hj => by omega⟩ h
        · exact kk 8 (by decide)
        · exact (kk 5 (by decide)).trans (nat_of g5.1)
        · exact (kk 6 (by decide)).trans (nat_of g6.1)
        · rw [kk 0 (by decide)]; exact g0
        · rw [kk 1 (by decide)]; exact g1
        · rw [kk 2 (by decide)]; exact g2
        · rw [kk 4 (by decide)]; exact ⟨by show 0 ≤ (r 4).toInt; omega, g4.2⟩
      obtain ⟨sc, ni, G1, G2⟩ := gg
      exact ⟨_, sc, ni, wt, G1, G2⟩
    · cases h
  · cases h
/-! commands -/
theorem X_tok_ge (T : Nat → Int32) (n e : Nat) : e ≤ (X_tok T n e).2.1 := (X_wh_le X_sp T (n - e) e).1
theorem Y_verb_len {T : Nat → Int32} {t : Tk} (h : ¬ Y_verb T t = -1) : t.2.1 + 4 ≤ t.2.2.1 := by
  have k : ∀ w, w < 10 → 4 ≤ (strB.getD w []).length := by decide +kernel
  have g : ∀ w, w < 10 → Y_isw T t w = true → t.2.1 + 4 ≤ t.2.2.1 := fun w hw hy => by
    unfold Y_isw X_isw at hy
    rw [Bool.and_eq_true, Bool.and_eq_true] at hy
    have := of_decide_eq_true hy.2.1
    have := k w hw
    omega
  unfold Y_verb at h
  split at h
  · next c => exact g 4 (by decide) c
  · split at h
    · next c => exact g 5 (by decide) c
    · split at h
      · next c => exact g 6 (by decide) c
      · split at h
        · next c => exact g 7 (by decide) c
        · split at h
          · next c => exact g 8 (by decide) c
          · split at h
            · next c => exact g 9 (by decide) c
            · exact absurd rfl h
theorem pos_nx {T : Nat → Int32} {n : Nat} {t : Tk} : t.2.2.1 ≤ (Y_nx T n t).2.1 := X_tok_ge T n t.2.2.1
theorem pos_num {T : Nat → Int32} {n : Nat} {lo hi : Int32} {q : Ps} (h : TkO n q.1) : q.1.2.1 ≤ (Y_num T n lo hi q).2.1.2.1 := by
  unfold Y_num
  split
  · exact Nat.le_trans h.2.1 pos_nx
  · show q.1.2.1 ≤ (Y_in lo hi q).2.1.2.1
    rw [Y_in_1]
    exact Nat.le_refl _
theorem pos_semi {T : Nat → Int32} {n : Nat} {q : Ps} (h : TkO n q.1) : q.1.2.1 ≤ (Y_semi T n q).2.1.2.1 := by
  unfold Y_semi
  split
  · exact Nat.le_trans h.2.1 pos_nx
  · exact Nat.le_refl _
theorem pos_cmd {T : Nat → Int32} {n : Nat} {c : Int32} {q : Ps} {S : Sq} (h : TkO n q.1) (hy : (Y_cmd T n c q S).1 = true) : q.1.2.1 + 4 ≤ (Y_cmd T n c q S).2.1.1.2.1 := by
  unfold Y_cmd at hy ⊢
  split at hy
  · cases hy
  · next v =>
    have v1 := Y_verb_len v
    have p0 : q.1.2.2.1 ≤ (Y_next T n q).1.2.1 := pos_nx
    have t0 : TkO n (Y_next T n q).1 := TkO_next h
    rw [if_neg v]
    split at hy
    · next w =>
      rw [if_pos w]
      split at hy
      · next x =>
        rw [if_pos x]
        have p1 := pos_num (T := T) (lo := 1) (hi := 100) t0
        have p2 := pos_semi (T := T) (TkO_num (T := T) (lo := 1) (hi := 100) t0)
        show q.1.2.1 + 4 ≤ (Y_semi T n (Y_num T n 1 100 (Y_next T n q)).2).2.1.2.1
        omega
      · cases hy
    · next w =>
      rw [if_neg w]
      split at hy
      · next x =>
        rw [if_pos x]
        have p1 := pos_num (T := T) (lo := 0) (hi := c - 1) t0
        have t1 := TkO_num (T := T) (lo := 0) (hi := c - 1) t0
        split at hy
        · next y =>
          rw [if_pos y]
          split at hy
          · next z =>
            rw [if_pos z]
            have p2 := pos_num (T := T) (lo := 0) (hi := 100) t1
            have p3 := pos_semi (T := T) (TkO_num (T := T) (lo := 0) (hi := 100) t1)
            show q.1.2.1 + 4 ≤ (Y_semi T n (Y_num T n 0 100 (Y_num T n 0 (c - 1) (Y_next T n q)).2).2).2.1.2.1
            omega
          · cases hy
        · next y =>
          rw [if_neg y]
          have p3 := pos_semi (T := T) t1
          show q.1.2.1 + 4 ≤ (Y_semi T n (Y_num T n 0 (c - 1) (Y_next T n q)).2).2.1.2.1
          omega
      · cases hy
theorem cmds_4 {T : Nat → Int32} {n sc : Nat} (s8 : sc ≤ 8) : ∀ (d : Nat) (q : Ps) (S : Sq), S.1 + d = 20 → SqOk sc S → TkO n q.1 → 4 * S.1 ≤ q.1.2.1 → (Y_cmds T n (nI sc) d q S).1 = true → 4 * (Y_cmds T n (nI sc) d q S).2.2.1 ≤ n
  | 0, q, S, _, _, hT, h, hy => by
    rw [Y_cmds] at hy ⊢
    have := hT.2.1
    have := hT.2.2
    split
    · show 4 * S.1 ≤ n
      omega
    · show 4 * S.1 ≤ n
      omega
  | d + 1, q, S, hd, hS, hT, h, hy => by
    rw [Y_cmds] at hy ⊢
    have := hT.2.1
    have := hT.2.2
    split at hy
    · next c =>
      rw [if_pos c]
      show 4 * S.1 ≤ n
      omega
    · next c =>
      rw [if_neg c]
      split at hy
      · next c2 =>
        rw [if_pos c2]
        have s1 := SqOk_cmd s8 hS (by omega) c2
        have p := pos_cmd hT c2
        exact cmds_4 s8 d _ _ (by rw [s1.2]; omega) s1.1 (TkO_cmd hT) (by rw [s1.2]; omega) hy
      · cases hy
theorem script_4 {T : Nat → Int32} {n sc : Nat} {q : Ps} {S : Sq} (s8 : sc ≤ 8) (hy : (Y_script T n (nI sc) q S).1 = true) : 4 * (Y_script T n (nI sc) q S).2.2.1 ≤ n := cmds_4 s8 20 _ _ rfl (fun i hi => absurd hi (Nat.not_lt_zero i)) TkO_start (by show 4 * 0 ≤ _; omega) hy
