/-! SETUPS READ BACK: the parser -/
def Nm (f : Nat → Nat) : Nat → Nat → List It
  | _, 0 => []
  | i, d + 1 => (2, f i) :: Nm f (i + 1) d
def Sp (f : Nat → Nat → Nat) : Nat → Nat → List It
  | _, 0 => []
  | i, d + 1 => (1, 3) :: (Nm (f i) 0 8 ++ (3, 0) :: Sp f (i + 1) d)
theorem Go_Nm {f : Nat → Nat} {r : List It} (g : GoI r) : ∀ d i, (∀ k, i ≤ k → k < i + d → f k < 100000) → GoI (Nm f i d ++ r)
  | 0, _, _ => g
  | d + 1, i, h => ⟨Or.inr (Or.inl ⟨rfl, h i (Nat.le_refl _) (by omega)⟩), Go_Nm g d (i + 1) (fun k h1 h2 => h k (by omega) (by omega))⟩
theorem Go_semi {r : List It} (g : GoI r) : GoI ((3, 0) :: r) := ⟨Or.inr (Or.inr rfl), g⟩
theorem nW_Nm {f : Nat → Nat} {r : List It} {d i : Nat} : nW (Nm f i (d + 1) ++ r) := by show (2 : Nat) ≠ 1; decide
theorem Go_Sp {f : Nat → Nat → Nat} : ∀ d i, (∀ k, i ≤ k → k < i + d → ∀ j, j < 8 → f k j < 100000) → GoI (Sp f i d)
  | 0, _, _ => True.intro
  | d + 1, i, h => ⟨Or.inl ⟨rfl, Or.inr (Or.inr rfl), nW_Nm⟩, Go_Nm (Go_semi (Go_Sp d (i + 1) (fun k h1 h2 => h k (by omega) (by omega)))) 8 0 (fun k _ h2 => h i (Nat.le_refl _) (by omega) k (by omega))⟩
section
variable {T : Nat → Int32} {n : Nat}
theorem cur_nx {t : Tk} {x : It} {r : List It} (c : Cur T n t (x :: r)) (g : GoI r) : Cur T n (Y_nx T n t) r := tok_cur c.2.2.2 g
theorem Y_word_ok {q : Ps} {k : Nat} {r : List It} (c : Cur T n q.1 ((1, k) :: r)) : Y_word T n k q = (true, Y_next T n q) := by
  unfold Y_word Y_isw
  rw [if_pos (c.2.1 rfl)]
theorem Y_semi_ok {q : Ps} {r : List It} (c : Cur T n q.1 ((3, 0) :: r)) : Y_semi T n q = (true, Y_next T n q) := by
  unfold Y_semi
  rw [if_pos c.1]
theorem Y_in_ok {q : Ps} {w : Nat} {lo hi : Int32} {r : List It} (c : Cur T n q.1 ((2, w) :: r)) (h1 : lo ≤ nI w) (h2 : nI w ≤ hi) : Y_in lo hi q = (true, q) := by
  unfold Y_in
  rw [if_pos c.1, if_pos (by rw [c.2.2.1 rfl]; exact ⟨h1, h2⟩)]
theorem Y_num_ok {q : Ps} {w : Nat} {lo hi : Int32} {r : List It} (c : Cur T n q.1 ((2, w) :: r)) (h1 : lo ≤ nI w) (h2 : nI w ≤ hi) : Y_num T n lo hi q = (true, Y_nx T n q.1, nI w, q.2.2) := by
  unfold Y_num
  rw [Y_in_ok c h1 h2, if_pos rfl, c.2.2.1 rfl]
theorem Y_row_ok {l : List Int32} {f : Nat → Nat} {r : List It} (g : GoI r) : ∀ (d i : Nat) (q : Ps) (V : Nat → Int32), Cur T n q.1 (Nm f i d ++ r) → (∀ k, i ≤ k → k < i + d → l.getD (2 * k) 0 ≤ nI (f k) ∧ nI (f k) ≤ l.getD (2 * k + 1) 0 ∧ f k < 100000) → ∃ q' V', Y_row T n l d i q V = (true, q', V') ∧ Cur T n q'.1 r ∧ (∀ k, i ≤ k → k < i + d → V' k = nI (f k)) ∧ ∀ k, k < i → V' k = V k
  | 0, i, q, V, c, _ => ⟨q, V, rfl, c, fun k h1 h2 => by omega, fun _ _ => rfl⟩
  | d + 1, i, q, V, c, h => by
    obtain ⟨b1, b2, b3⟩ := h i (Nat.le_refl _) (by omega)
    have c2 : Cur T n (Y_nx T n q.1) (Nm f (i + 1) d ++ r) := cur_nx c (Go_Nm g d (i + 1) (fun k h1 h2 => (h k (by omega) (by omega)).2.2))
    obtain ⟨q', V', e, c3, v1, v2⟩ := Y_row_ok g d (i + 1) (Y_nx T n q.1, nI (f i), q.2.2) (u1 V i (nI (f i))) c2 (fun k h1 h2 => h k (by omega) (by omega))
    refine ⟨q', V', ?_, c3, fun k h1 h2 => ?_, fun k h1 => ?_⟩
    · rw [Y_row, Y_num_ok c b1 b2, if_pos rfl]
      exact e
    · by_cases hk : k = i
      · rw [hk, v2 i (by omega), u1_same]
      · exact v1 k (by omega) (by omega)
    · rw [v2 k (by omega), u1_ne (by omega)]
theorem Y_bur_ok {q : Ps} {V : Nat → Int32} {B : Bu} {hs : Nat → Nat} {r : List It} (g : GoI r) (c : Cur T n q.1 ((1, 1) :: (Nm hs 0 7 ++ (3, 0) :: r))) (h : ∀ k, k < 7 → RB.getD (2 * k) 0 ≤ nI (hs k) ∧ nI (hs k) ≤ RB.getD (2 * k + 1) 0 ∧ hs k < 100000) : ∃ q' V', Y_bur T n q V B = (true, q', V', M_beginB B.1 V', B.2) ∧ Cur T n q'.1 r ∧ ∀ k, k < 7 → V' k = nI (hs k) := by
  have c2 : Cur T n (Y_next T n q).1 (Nm hs 0 7 ++ (3, 0) :: r) := cur_nx c (Go_Nm (Go_semi g) 7 0 (fun k _ h2 => (h k (by omega)).2.2))
  obtain ⟨q', V', e, c3, v1, v2⟩ := Y_row_ok (l := RB) (Go_semi g) 7 0 (Y_next T n q) V c2 (fun k _ h2 => h k (by omega))
  refine ⟨Y_next T n q', V', ?_, cur_nx c3 g, fun k hk => v1 k (Nat.zero_le _) (by omega)⟩
  unfold Y_bur
  simp only [Y_word_ok c, e, Y_semi_ok c3, if_true]
theorem has_no {w : Nat → Int32} {gs : Nat → Nat} {i m : Nat} (hw : ∀ j, j < i → w j = nI (gs j)) (hi : i < m) (hd : ∀ a b, a < m → b < m → gs a = gs b → a = b) (hb : ∀ a, a < m → gs a < 100000) : P_has w (nI (gs i)) i = false := by
  unfold P_has
  refine List.any_eq_false.mpr (fun j hj => ?_)
  have hj := List.mem_range.mp hj
  rw [hw j hj]
  intro z
  have e := nI_inj (by have := hb j (by omega); omega) (by have := hb i hi; omega) (of_decide_eq_true z)
  have := hd j i (by omega) hi e
  omega
theorem Y_weight_ok {q : Ps} {B : Bu} {gs : Nat → Nat} {i m : Nat} {r : List It} (c : Cur T n q.1 ((2, gs i) :: r)) (hw : ∀ j, j < i → B.2.1 j = nI (gs j)) (hi : i < m) (h6 : m ≤ 6) (hd : ∀ a b, a < m → b < m → gs a = gs b → a = b) (hb : ∀ a, a < m → 1 ≤ gs a ∧ gs a ≤ 5000) : Y_weight T n q B i = (true, Y_next T n q, P_addW B i (nI (gs i)), i + 1) := by
  obtain ⟨b1, b2⟩ := hb i hi
  have e := Y_in_ok (lo := 1) (hi := 5000) c (show nI 1 ≤ nI (gs i) from (nI_leI9 (by decide) (by omega)).mpr b1) (show nI (gs i) ≤ nI 5000 from (nI_leI9 (by omega) (by decide)).mpr b2)
  unfold Y_weight
  rw [e, if_pos rfl, c.2.2.1 rfl, if_neg (by rw [has_no hw hi hd (fun a ha => by have := hb a ha; omega)]; decide), if_pos (by omega)]
theorem Y_wl_ok {gs : Nat → Nat} {m : Nat} {r : List It} (g : GoI r) (h6 : m ≤ 6) (hd : ∀ a b, a < m → b < m → gs a = gs b → a = b) (hb : ∀ a, a < m → 1 ≤ gs a ∧ gs a ≤ 5000) : ∀ (d i p : Nat) (q : Ps) (B : Bu), i + p = m → p ≤ d → Cur T n q.1 (Nm gs i p ++ (3, 0) :: r) → (∀ j, j < i → B.2.1 j = nI (gs j)) → B.1 7 = nI i → ∃ q' B', Y_wl T n d q B i = (true, q', B', m) ∧ Cur T n q'.1 r ∧ (∀ j, j < m → B'.2.1 j = nI (gs j)) ∧ B'.1 7 = nI m ∧ (∀ k, k ≠ 7 → B'.1 k = B.1 k) ∧ B'.2.2 = B.2.2
  | 0, i, p, q, B, h1, h2, c, hw, h7 => by
    obtain rfl : p = 0 := by omega
    obtain rfl : i = m := by omega
    refine ⟨Y_next T n q, B, ?_, cur_nx c g, hw, h7, fun _ _ => rfl, rfl⟩
    rw [Y_wl, Y_semi_ok c]
  | d + 1, i, 0, q, B, h1, h2, c, hw, h7 => by
    obtain rfl : i = m := by omega
    refine ⟨Y_next T n q, B, ?_, cur_nx c g, hw, h7, fun _ _ => rfl, rfl⟩
    rw [Y_wl, if_neg (by rw [c.1]; decide), Y_semi_ok c]
  | d + 1, i, p + 1, q, B, h1, h2, c, hw, h7 => by
    have e := Y_weight_ok c hw (by omega) h6 hd hb
    have c2 : Cur T n (Y_next T n q).1 (Nm gs (i + 1) p ++ (3, 0) :: r) := cur_nx c (Go_Nm (Go_semi g) p (i + 1) (fun k a b => by have := hb k (by omega); omega))
    obtain ⟨q', B', e1, e2, e3, e4, e5, e6⟩ := Y_wl_ok g h6 hd hb d (i + 1) p (Y_next T n q) (P_addW B i (nI (gs i))) (by omega) (by omega) c2 (fun j hj => by
      show u1 B.2.1 i (nI (gs i)) j = _
      by_cases z : j = i
      · rw [z, u1_same]
      · rw [u1_ne z]; exact hw j (by omega)) (by show u1 B.1 7 (nI (i + 1)) 7 = _; rw [u1_same])
    refine ⟨q', B', ?_, e2, e3, e4, fun k hk => (e5 k hk).trans (u1_ne hk), e6⟩
    rw [Y_wl, if_pos c.1, e, if_pos rfl]
    exact e1
theorem Y_weights_ok {q : Ps} {B : Bu} {gs : Nat → Nat} {m : Nat} {r : List It} (g : GoI r) (h1 : 1 ≤ m) (h6 : m ≤ 6) (hd : ∀ a b, a < m → b < m → gs a = gs b → a = b) (hb : ∀ a, a < m → 1 ≤ gs a ∧ gs a ≤ 5000) (c : Cur T n q.1 ((1, 2) :: (Nm gs 0 m ++ (3, 0) :: r))) : ∃ q' B', Y_weights T n q B 0 = (true, q', B', m) ∧ Cur T n q'.1 r ∧ (∀ j, j < m → B'.2.1 j = nI (gs j)) ∧ B'.1 7 = nI m ∧ (∀ k, k ≠ 7 → B'.1 k = B.1 k) ∧ B'.2.2 = B.2.2 := by
  obtain ⟨p, rfl⟩ : ∃ p, m = p + 1 := ⟨m - 1, by omega⟩
  have c2 : Cur T n (Y_next T n q).1 (Nm gs 0 (p + 1) ++ (3, 0) :: r) := cur_nx c (Go_Nm (Go_semi g) (p + 1) 0 (fun k a b => by have := hb k (by omega); omega))
  have e := Y_weight_ok (B := B) (i := 0) c2 (fun j hj => by omega) (by omega) h6 hd hb
  have c3 : Cur T n (Y_next T n (Y_next T n q)).1 (Nm gs 1 p ++ (3, 0) :: r) := cur_nx c2 (Go_Nm (Go_semi g) p 1 (fun k a b => by have := hb k (by omega); omega))
  obtain ⟨q', B', e1, e2, e3, e4, e5, e6⟩ := Y_wl_ok g h6 hd hb 6 1 p (Y_next T n (Y_next T n q)) (P_addW B 0 (nI (gs 0))) (by omega) (by omega) c3 (fun j hj => by
      obtain rfl : j = 0 := by omega
      exact u1_same B.2.1 0 (nI (gs 0))) (by show u1 B.1 7 (nI (0 + 1)) 7 = _; rw [u1_same])
  refine ⟨q', B', ?_, e2, e3, e4, fun k hk => (e5 k hk).trans (u1_ne hk), e6⟩
  unfold Y_weights
  rw [Y_word_ok c, if_pos rfl, e, if_pos rfl]
  exact e1
theorem Y_shop1_ok {q : Ps} {V : Nat → Int32} {B : Bu} {rs : Nat → Nat} {i : Nat} {r : List It} (g : GoI r) (c : Cur T n q.1 ((1, 3) :: (Nm rs 0 8 ++ (3, 0) :: r))) (h : ∀ k, k < 8 → RS.getD (2 * k) 0 ≤ nI (rs k) ∧ nI (rs k) ≤ RS.getD (2 * k + 1) 0 ∧ rs k < 100000) : ∃ q' V', Y_shop1 T n i q V B = (true, q', V', P_addS B i V') ∧ Cur T n q'.1 r ∧ ∀ k, k < 8 → V' k = nI (rs k) := by
  have c2 : Cur T n (Y_next T n q).1 (Nm rs 0 8 ++ (3, 0) :: r) := cur_nx c (Go_Nm (Go_semi g) 8 0 (fun k _ h2 => (h k (by omega)).2.2))
  obtain ⟨q', V', e, c3, v1, v2⟩ := Y_row_ok (l := RS) (Go_semi g) 8 0 (Y_next T n q) V c2 (fun k _ h2 => h k (by omega))
  refine ⟨Y_next T n q', V', ?_, cur_nx c3 g, fun k hk => v1 k (Nat.zero_le _) (by omega)⟩
  unfold Y_shop1
  simp only [Y_word_ok c, e, Y_semi_ok c3, if_true]
theorem Y_sh_ok {rs : Nat → Nat → Nat} {m : Nat} (h8 : m ≤ 8) (h0 : 0 < m) (hb : ∀ i, i < m → ∀ k, k < 8 → RS.getD (2 * k) 0 ≤ nI (rs i k) ∧ nI (rs i k) ≤ RS.getD (2 * k + 1) 0 ∧ rs i k < 100000) : ∀ (d i p : Nat) (q : Ps) (V : Nat → Int32) (B : Bu), i + p = m → p ≤ d → Cur T n q.1 (Sp rs i p) → B.1 8 = nI i → ∃ q' V' B', Y_sh T n d i q V B = (true, q', V', B') ∧ B'.1 8 = nI m ∧ (∀ k, k ≠ 8 → B'.1 k = B.1 k) ∧ B'.2.1 = B.2.1 ∧ (∀ j, j < i ∨ m ≤ j → B'.2.2 j = B.2.2 j) ∧ ∀ j, i ≤ j → j < m → ∃ z r, B'.2.2 j = M_begin z r ∧ ∀ k, k < 8 → r k = nI (rs j k)
  | 0, i, p, q, V, B, h1, h2, c, h7 => by
    obtain rfl : p = 0 := by omega
    obtain rfl : i = m := by omega
    refine ⟨q, V, B, ?_, h7, fun _ _ => rfl, rfl, fun _ _ => rfl, fun j a b => by omega⟩
    rw [Y_sh, if_pos (show q.1.1 = 0 from c)]
  | d + 1, i, 0, q, V, B, h1, h2, c, h7 => by
    obtain rfl : i = m := by omega
    refine ⟨q, V, B, ?_, h7, fun _ _ => rfl, rfl, fun _ _ => rfl, fun j a b => by omega⟩
    rw [Y_sh, if_pos ⟨h0, c⟩]
  | d + 1, i, p + 1, q, V, B, h1, h2, c, h7 => by
    obtain ⟨q1, V1, e1, c1, v1⟩ := Y_shop1_ok (V := V) (B := B) (i := i) (Go_Sp p (i + 1) (fun k a b j hj => (hb k (by omega) j hj).2.2)) c (hb i (by omega))
    obtain ⟨q', V', B', e2, f1, f2, f3, f4, f5⟩ := Y_sh_ok h8 h0 hb d (i + 1) p q1 V1 (P_addS B i V1) (by omega) (by omega) c1 (by show u1 B.1 8 (nI (i + 1)) 8 = _; rw [u1_same])
    refine ⟨q', V', B', ?_, f1, fun k hk => (f2 k hk).trans (u1_ne hk), f3, fun j hj => (f4 j (by omega)).trans (u1_ne (by omega)), fun j a b => ?_⟩
    · rw [Y_sh, if_neg (fun z => by rw [c.1] at z; exact absurd z.2 (by decide)), e1, if_pos rfl]
      exact e2
    · by_cases hj : j = i
      · refine ⟨B.2.2 i, V1, ?_, by rw [hj]; exact v1⟩
        rw [hj, f4 i (by omega)]
        exact u1_same _ _ _
      · exact f5 j (by omega) b
/-- all of a setup -/
def Setup (hs gs : Nat → Nat) (rs : Nat → Nat → Nat) (nw sc : Nat) : List It := (1, 1) :: (Nm hs 0 7 ++ (3, 0) :: ((1, 2) :: (Nm gs 0 nw ++ (3, 0) :: Sp rs 0 sc)))
theorem Y_setup_ok {hs gs : Nat → Nat} {rs : Nat → Nat → Nat} {nw sc : Nat} {q : Ps} {V : Nat → Int32} {B : Bu} (hh : ∀ k, k < 7 → RB.getD (2 * k) 0 ≤ nI (hs k) ∧ nI (hs k) ≤ RB.getD (2 * k + 1) 0 ∧ hs k < 100000) (w1 : 1 ≤ nw) (w6 : nw ≤ 6) (hd : ∀ a b, a < nw → b < nw → gs a = gs b → a = b) (hg : ∀ a, a < nw → 1 ≤ gs a ∧ gs a ≤ 5000) (s1 : 0 < sc) (s8 : sc ≤ 8) (hr : ∀ i, i < sc → ∀ k, k < 8 → RS.getD (2 * k) 0 ≤ nI (rs i k) ∧ nI (rs i k) ≤ RS.getD (2 * k + 1) 0 ∧ rs i k < 100000) (ht : Rm T n 0 (rns (Setup hs gs rs nw sc))) : ∃ q' V' C, Y_setup T n q V B = (true, q', V', C) ∧ (∀ k, k < 7 → C.1 k = nI (hs k)) ∧ C.1 7 = nI nw ∧ C.1 8 = nI sc ∧ (C.1 9 = 0 ∧ C.1 10 = 0 ∧ C.1 11 = 0) ∧ (∀ j, j < nw → C.2.1 j = nI (gs j)) ∧ (∀ j, sc ≤ j → C.2.2 j = B.2.2 j) ∧ ∀ j, j < sc → ∃ z r, C.2.2 j = M_begin z r ∧ ∀ k, k < 8 → r k = nI (rs j k) := by
  have gS : GoI (Sp rs 0 sc) := Go_Sp sc 0 (fun k a b j hj => (hr k (by omega) j hj).2.2)
  have gW : GoI ((1, 2) :: (Nm gs 0 nw ++ (3, 0) :: Sp rs 0 sc)) := by
    obtain ⟨p, rfl⟩ : ∃ p, nw = p + 1 := ⟨nw - 1, by omega⟩
    exact ⟨Or.inl ⟨rfl, Or.inr (Or.inl rfl), nW_Nm⟩, Go_Nm (Go_semi gS) (p + 1) 0 (fun k a b => by have := hg k (by omega); omega)⟩
  have gB : GoI (Setup hs gs rs nw sc) := ⟨Or.inl ⟨rfl, Or.inl rfl, nW_Nm⟩, Go_Nm (Go_semi gW) 7 0 (fun k a b => (hh k (by omega)).2.2)⟩
  have c0 : Cur T n (Y_start T n q).1 (Setup hs gs rs nw sc) := tok_cur ht gB
  obtain ⟨q1, V1, e1, c1, v1⟩ := Y_bur_ok (V := V) (B := B) gW c0 hh
  obtain ⟨q2, B2, e2, c2, a1, a2, a3, a4⟩ := Y_weights_ok (B := (M_beginB B.1 V1, B.2)) gS w1 w6 hd hg c1
  obtain ⟨q3, V3, C, e3, f1, f2, f3, f4, f5⟩ := Y_sh_ok s8 s1 hr 8 0 sc q2 V1 B2 (by omega) s8 c2 (by rw [a3 8 (by decide)]; rfl)
  have k1 : ∀ k, k ≠ 7 → k ≠ 8 → C.1 k = M_beginB B.1 V1 k := fun k h7 h8 => (f2 k h8).trans (a3 k h7)
  refine ⟨q3, V3, C, ?_, fun k hk => ?_, (f2 7 (by decide)).trans a2, f1, ⟨k1 9 (by decide) (by decide), k1 10 (by decide) (by decide), k1 11 (by decide) (by decide)⟩, fun j hj => by rw [f3]; exact a1 j hj, fun j hj => by rw [f4 j (Or.inr hj), a4], fun j hj => f5 j (Nat.zero_le _) hj⟩
  · unfold Y_setup
    simp only [e1, e2, if_true]
    exact e3
  · rw [k1 k (by omega) (by omega)]
    show (if k < 7 then V1 k else if k < 12 then 0 else B.1 k) = _
    rw [if_pos hk]
    exact v1 k hk
end
