/-! THE LAW: what each act keeps -/
section
variable {nw sc ni ni' T T' i : Nat} {L L' B B' : Bu}
theorem PB.step (p : PB nw sc ni T L B) (J : Jq nw sc L' B') (G : Gd B' nw sc ni' T') (hT : T ≤ T') (q : Q_c B' sc = 0) (h9 : L'.1 9 = L.1 9) (hl : Lt sc L') (hw : L'.2.1 = L.2.1) (h3 : L'.1 3 = L.1 3) : PB nw sc ni' T' L' (nB B') := by
  obtain ⟨-, -, -, ⟨K, k1, k2⟩, -, w, V, v1, v2⟩ := p
  have s8 := G.1.2.2.2.1
  exact ⟨J.t (Jq_nB s8).s, Gd_nB G, by rw [Q_c_nB s8]; exact q, ⟨K, by omega, h9.trans k2⟩, hl, fun j hj => by rw [hw]; exact w j hj, V, v1, h3.trans v2⟩
theorem PB.mono (p : PB nw sc ni T L B) (hT : T ≤ T') : PB nw sc ni T' L B := by
  obtain ⟨a, b, c, ⟨K, k1, k2⟩, d⟩ := p
  exact ⟨a, b.mono hT, c, ⟨K, by omega, k2⟩, d⟩
theorem PB.nB (p : PB nw sc ni T L B) : PB nw sc ni T L (nB B) := by
  obtain ⟨a, b, c, d⟩ := p
  have s8 := b.1.2.2.2.1
  exact ⟨a.t (Jq_nB s8).s, Gd_nB b, by rw [Q_c_nB s8]; exact c, d⟩
theorem PB.d9 (p : PB nw sc ni T L B) (hT : T ≤ 1000000) : 0 ≤ L.1 9 := by
  obtain ⟨K, k1, k2⟩ := p.2.2.2.1
  rw [k2]
  exact (i_le _ _).mpr (by rw [i_0, nI_toInt (by omega)]; omega)
theorem PB_ins (p : PB nw sc ni T L B) (hT : T ≤ 1000000) (hi : i < sc) : PB nw sc ni T (P_ins L i nw) (nB (P_ins B i nw)) :=
  p.step (p.1.ins hi) (Gd_ins p.2.1 hi) (Nat.le_refl _) (by rw [Q_c_ins hi]; exact p.2.2.1) ins_9 (Lt_ins p.2.2.2.2.1 (p.d9 hT)) rfl ins_3
theorem Lt_sS {s : Nat → Int32} (h : Lt sc L) (e : s 10 = L.2.2 i 10) : Lt sc (sS L i s) := fun j hj => by
  show u1 L.2.2 i s j 10 = -1 ∨ 0 ≤ u1 L.2.2 i s j 10
  rw [u1_at]
  split
  · next z => rw [e, ← z]; exact h j hj
  · exact h j hj
theorem Lt_sC {c : Nat → Int32} (h : Lt sc L) : Lt sc (sC L c) := h
theorem P_repair_J (J : Jq nw sc L B) (hi : i < sc) : Jq nw sc (P_repair L i) (P_repair B i) := by
  unfold P_repair M_straight
  refine Jq_sC (Jq_sS J (Js_u (Js_u (Js_u (J.2.2 i hi) rfl) rfl) ?_)) (Jc_u J.1 ?_)
  · rw [J.2.2 i hi 0 (by decide)]
  · rw [J.1 10 (by decide)]
theorem PB_repair (p : PB nw sc ni T L B) (hi : i < sc) : PB nw sc ni T (P_repair L i) (nB (P_repair B i)) := by
  refine p.step (P_repair_J p.1 hi) (Gd_repair p.2.1 hi) (Nat.le_refl _) (by rw [Q_c_repair hi]; exact p.2.2.1) ?_ ?_ rfl ?_
  · exact show u1 L.1 10 (L.1 10 + 10) 9 = L.1 9 from u1_ne (by decide)
  · exact Lt_sC (Lt_sS p.2.2.2.2.1 (by unfold M_straight; rw [u1_ne (by decide), u1_ne (by decide), u1_ne (by decide)]))
  · exact show u1 L.1 10 (L.1 10 + 10) 3 = L.1 3 from u1_ne (by decide)
theorem Q_c_sS {s : Nat → Int32} (hi : i < sc) (h15 : s 15 = B.2.2 i 15) (h14 : s 14 = B.2.2 i 14) (h0 : s 0 = B.2.2 i 0) : Q_c (sS B i s) sc = Q_c B sc := by
  refine Q_c_all rfl (fun j hj => ?_) (fun j hj => ?_)
  · show u1 B.2.2 i s j 15 = _
    rw [u1_at]
    split
    · next z => rw [h15, z]
    · rfl
  · show u1 B.2.2 i s j 14 - u1 B.2.2 i s j 0 = _
    rw [u1_at]
    split
    · next z => rw [h14, h0, z]
    · rfl
theorem PB_thumb {v : Int32} (p : PB nw sc ni T L B) (hi : i < sc) : PB nw sc ni T (sS L i (u1 (L.2.2 i) 6 v)) (nB (Q_thumb B i v)) := by
  unfold Q_thumb
  refine p.step (Jq_sS p.1 (Js_u (p.1.2.2 i hi) rfl)) (Gd_sS p.2.1 (Sg_u (p.2.1.2.2 i hi) (by decide))) (Nat.le_refl _) (by rw [Q_c_sS hi (u1_ne (by decide)) (u1_ne (by decide)) (u1_ne (by decide))]; exact p.2.2.1) rfl (Lt_sS p.2.2.2.2.1 (u1_ne (by decide))) rfl rfl
theorem PB_complain (p : PB nw sc ni T L B) (hT : T ≤ 1000000) (hi : i < sc) : PB nw sc ni (T + 1) (sS L i (u1 (L.2.2 i) 8 (L.2.2 i 8 + 1))) (nB (sS B i (u1 (B.2.2 i) 8 (B.2.2 i 8 + 1)))) := by
  refine p.step (Jq_sS p.1 (Js_u (p.1.2.2 i hi) (by rw [p.1.2.2 i hi 8 (by decide)]))) (Gd_sS (p.2.1.mono (Nat.le_succ T)) (Sg_8 (p.2.1.2.2 i hi) (by omega))) (Nat.le_succ _) (by rw [Q_c_sS hi (u1_ne (by decide)) (u1_ne (by decide)) (u1_ne (by decide))]; exact p.2.2.1) rfl (Lt_sS p.2.2.2.2.1 (u1_ne (by decide))) rfl rfl
theorem PB_open (p : PB nw sc ni T L B) (hi : i < sc) : PB nw sc ni T (sS L i (M_open (L.2.2 i))) (nB (sS B i (M_open (B.2.2 i)))) := by
  have e : ∀ (s : Nat → Int32) k, k ≠ 12 → k ≠ 9 → M_open s k = s k := fun s k h1 h2 => by unfold M_open; rw [u1_ne h2, u1_ne h1]
  refine p.step (Jq_sS p.1 (Js_u (Js_u (p.1.2.2 i hi) rfl) rfl)) (Gd_sS p.2.1 (Sg_open (p.2.1.2.2 i hi))) (Nat.le_refl _) (by rw [Q_c_sS hi (e _ 15 (by decide) (by decide)) (e _ 14 (by decide) (by decide)) (e _ 0 (by decide) (by decide))]; exact p.2.2.1) rfl (Lt_sS p.2.2.2.2.1 (e _ 10 (by decide) (by decide))) rfl rfl
theorem Gd_insp {m : Nat} (h : Gd B nw sc ni T) (hm : m ≤ 3) : Gd (sC B (u1 B.1 5 (nI m))) nw sc m T := by
  obtain ⟨⟨g1, g2, g3, g4, g5, g6, g7, ⟨sd, g8, g8'⟩, g9⟩, c, s⟩ := h
  have e : ∀ k, k ≠ 5 → u1 B.1 5 (nI m) k = B.1 k := fun k hk => u1_ne hk
  exact ⟨⟨(e 7 (by decide)).trans g1, g2, (e 8 (by decide)).trans g3, g4, g5, u1_same B.1 5 (nI m), hm, ⟨sd, g8, (e 6 (by decide)).trans g8'⟩, g9⟩, Cg_u c (by decide), s⟩
theorem Q_c_sC {k : Nat} {v : Int32} (hk : k ≠ 10) : Q_c (sC B (u1 B.1 k v)) sc = Q_c B sc := Q_c_all (show u1 B.1 k v 10 = B.1 10 from u1_ne (Ne.symm hk)) (fun _ _ => rfl) (fun _ _ => rfl)
theorem PB_insp {m : Nat} (p : PB nw sc ni T L B) (hm : m ≤ 3) : PB nw sc m T (sC L (u1 L.1 5 (nI m))) (nB (sC B (u1 B.1 5 (nI m)))) :=
  p.step (Jq_sC p.1 (Jc_u p.1.1 rfl)) (Gd_insp p.2.1 hm) (Nat.le_refl _) (by rw [Q_c_sC (by decide)]; exact p.2.2.1) (show u1 L.1 5 (nI m) 9 = L.1 9 from u1_ne (by decide)) p.2.2.2.2.1 rfl (show u1 L.1 5 (nI m) 3 = L.1 3 from u1_ne (by decide))
theorem PB_fee {v : Int32} (p : PB nw sc ni T L B) : PB nw sc ni T (sC L (u1 L.1 2 v)) (nB (sC B (u1 B.1 2 v))) :=
  p.step (Jq_sC p.1 (Jc_u p.1.1 rfl)) (Gd_sC p.2.1 (by decide)) (Nat.le_refl _) (by rw [Q_c_sC (by decide)]; exact p.2.2.1) (show u1 L.1 2 v 9 = L.1 9 from u1_ne (by decide)) p.2.2.2.2.1 rfl (show u1 L.1 2 v 3 = L.1 3 from u1_ne (by decide))
/-! what the acts' answers need -/
theorem P_open_J : ∀ (n : Nat) (s s' : Nat → Nat → Int32), (∀ j, j < n → s j 12 = s' j 12) → P_open s n = P_open s' n
  | 0, _, _, _ => rfl
  | n + 1, s, s', h => by rw [P_open, P_open, h n (by omega), P_open_J n s s' (fun j hj => h j (by omega))]
theorem P_fine_0 (hG : Gd B nw sc ni T) (hi : i < sc) (hf : P_fails B i nw = false) : P_fine B i nw = 0 := by
  have hc := P_fails_f hf
  have ht : M_tot B.1 B.2.1 (B.2.2 i) nw = 0 := by
    have h1 := hG.tot hi
    have h2 : M_tot B.1 B.2.1 (B.2.2 i) nw ≤ 0 := Int32.not_lt.mp (fun z => hc (Or.inl z))
    exact Int32.le_antisymm h2 h1
  have hz : M_stamped (B.2.2 i) (B.1 9) = true := by
    cases e : M_stamped (B.2.2 i) (B.1 9) with
    | true => rfl
    | false => exact absurd (Or.inr e) hc
  unfold P_fine M_fine M_ounces
  rw [ht, hz]
  show B.1 2 * ((0 + 27) / 28) + 0 = 0
  rw [show (0 + 27) / 28 = (0 : Int32) by decide]
  grind
theorem tot_str {c w s : Nat → Int32} {m : Nat} (hc : Cg c w m) (h1 : s 1 = 0) (h2 : s 2 = 0) : ∀ n, n ≤ m → M_tot c w s n = 0
  | 0, _ => rfl
  | n + 1, hn => by
    rw [M_tot, tot_str hc h1 h2 n (by omega)]
    have e : M_err s (w n) = 0 := by
      unfold M_err
      rw [h1, h2, show w n * 0 = 0 by grind]
      decide
    have b := (M_bound_b hc (hc.2.2 n (by omega)).1 (hc.2.2 n (by omega)).2)
    unfold M_exc M_abs M_pos
    rw [e, show (if (0 : Int32) ≤ 0 then (0 : Int32) else 0 - 0) = 0 from rfl]
    rw [if_neg (fun z => by
      have z := (i_lt _ _).mp z
      rw [i_0, i_subI (by rw [i_0]; omega) (by rw [i_0]; omega), i_0] at z
      omega)]
    rfl
theorem vis_stamped (p : PB nw sc ni T L B) (hT : T ≤ 1000000) : M_stamped ((P_ins L i nw).2.2 i) ((P_ins L i nw).1 9) = true := by
  obtain ⟨K, k1, k2⟩ := p.2.2.2.1
  obtain ⟨-, V, v1, v2⟩ := p.2.2.2.2.2
  unfold M_stamped
  rw [ins_9]
  refine decide_eq_true ?_
  show L.1 9 ≤ u1 L.2.2 i (M_visS L.1 (L.2.2 i) _ _) i 11
  rw [u1_same]
  have e : ∀ t z, M_visS L.1 (L.2.2 i) t z 11 = L.1 9 + L.1 3 := fun t z => by
    unfold M_visS M_straight
    try dsimp only
    split <;> split <;> split <;> simp only [u1_at, Nat.reduceEqDiff, reduceIte, reduceCtorEq]
  rw [e, k2, v2, nI_add]
  exact (nI_leI9 (by omega) (by omega)).mpr (by omega)
end
