/-! ANSWERS: loadSetup -/
theorem Fx.nd6 {h : Hp} {A γ : Nat → Nat} (F : Fx h A γ) : ((A 8) :: (A 7) :: (A 5) :: (A 4) :: (A 3) :: (A 1) :: (([] : List (Nat × (Nat → Int32))).map Prod.fst)).Nodup := by
  have g : ∀ i j, i < 23 → j < 23 → i ≠ j → A i ≠ A j := fun i j hi hj n => F.ne hi hj n
  simp only [List.map_nil, List.nodup_cons, List.mem_cons, List.not_mem_nil, or_false, not_or, not_false_eq_true, List.nodup_nil, and_true]
  refine ⟨⟨?_, ?_, ?_, ?_, ?_⟩, ⟨?_, ?_, ?_, ?_⟩, ⟨?_, ?_, ?_⟩, ⟨?_, ?_⟩, ?_⟩ <;> exact g _ _ (by decide) (by decide) (by decide)
theorem Fx.nd4 {h : Hp} {A γ : Nat → Nat} (F : Fx h A γ) : ((A 15) :: (A 16) :: (A 14) :: (A 21) :: (([] : List (Nat × (Nat → Int32))).map Prod.fst)).Nodup := by
  have g : ∀ i j, i < 23 → j < 23 → i ≠ j → A i ≠ A j := fun i j hi hj n => F.ne hi hj n
  simp only [List.map_nil, List.nodup_cons, List.mem_cons, List.not_mem_nil, or_false, not_or, not_false_eq_true, List.nodup_nil, and_true]
  refine ⟨⟨?_, ?_, ?_⟩, ⟨?_, ?_⟩, ?_⟩ <;> exact g _ _ (by decide) (by decide) (by decide)
theorem wL4_self {h : Hp} {a b c d : Nat} : wL h ((a, hI h a) :: (b, hI h b) :: (c, hI h c) :: (d, hI h d) :: []) = h := by
  have k := wL_self (h := h) (L := [a, b, c, d])
  simp only [List.map] at k
  exact k
theorem ltL {L : List (Nat × (Nat → Int32))} (h : (L.map Prod.fst).all (fun k => decide (k < 23)) = true) : ∀ p, p ∈ L → p.1 < 23 := fun p hp => of_decide_eq_true (List.all_eq_true.mp h p.1 (List.mem_map.mpr ⟨p, hp, rfl⟩))
theorem neL {L : List (Nat × (Nat → Int32))} {k : Nat} (h : (L.map Prod.fst).all (fun j => decide (j ≠ k)) = true) : ∀ p, p ∈ L → p.1 ≠ k := fun p hp => of_decide_eq_true (List.all_eq_true.mp h p.1 (List.mem_map.mpr ⟨p, hp, rfl⟩))
theorem ME.six {H : Hp} {A γ : Nat → Nat} {s s' : Sv} {c' G' N' K' : Nat → Int32} (m : ME H A s) (F : Fx H A γ) (hv : sV s' = sV s) (hx : sX s' = sX s) (h1 : c' 1 = nI (sO s')) (h2 : c' 2 = nI (sK s')) (h5 : c' 5 = nI (sN s')) (h6 : c' 6 = sE s') (h7 : c' 7 = sP s') (h16 : c' 16 = hI H (A 8) 16) (hT : ∀ j, j < sN s' → hI H (A 5) j = sT s' j) (hM : ∀ t, t ≤ 10 → Vt s' t → Mir G' t (sD s' t)) : ME (wL H (((A 8), c') :: ((A 7), G') :: ((A 5), hI H (A 5)) :: ((A 4), N') :: ((A 3), K') :: ((A 1), wdR) :: [])) A s' := by
  have e9 : wL H (((A 8), c') :: ((A 7), G') :: ((A 5), hI H (A 5)) :: ((A 4), N') :: ((A 3), K') :: ((A 1), wdR) :: []) = wA H A [(8, c'), (7, G'), (5, hI H (A 5)), (4, N'), (3, K'), (1, wdR)] := rfl
  have hl := ltL (L := [(8, c'), (7, G'), (5, hI H (A 5)), (4, N'), (3, K'), (1, wdR)]) rfl
  rw [e9]
  have j8 := wA_at (h := H) F (show 8 < 23 by decide) hl
  have j7 := wA_at (h := H) F (show 7 < 23 by decide) hl
  have j5 := wA_at (h := H) F (show 5 < 23 by decide) hl
  have j1 := wA_at (h := H) F (show 1 < 23 by decide) hl
  have j2 := wA_not (h := H) F (show 2 < 23 by decide) hl (neL rfl)
  have j6 := wA_not (h := H) F (show 6 < 23 by decide) hl (neL rfl)
  have j8 : hI (wA H A [(8, c'), (7, G'), (5, hI H (A 5)), (4, N'), (3, K'), (1, wdR)]) (A 8) = c' := j8
  have j7 : hI (wA H A [(8, c'), (7, G'), (5, hI H (A 5)), (4, N'), (3, K'), (1, wdR)]) (A 7) = G' := j7
  have j5 : hI (wA H A [(8, c'), (7, G'), (5, hI H (A 5)), (4, N'), (3, K'), (1, wdR)]) (A 5) = hI H (A 5) := j5
  have j1 : hI (wA H A [(8, c'), (7, G'), (5, hI H (A 5)), (4, N'), (3, K'), (1, wdR)]) (A 1) = wdR := j1
  obtain ⟨⟨m1, m2, m3, m4, m5, m6⟩, m7, m8, m9, m10, m11⟩ := m
  refine ⟨⟨?_, ?_, ?_, ?_, ?_, ?_⟩, ?_, ?_, ?_, ?_, fun t ht v => ?_⟩
  · rw [j8]; exact h1
  · rw [j8]; exact h2
  · rw [j8]; exact h5
  · rw [j8]; exact h6
  · rw [j8]; exact h7
  · rw [j8, h16, hx]; exact m6
  · rw [j5]; exact hT
  · rw [j2, hx]; exact m8
  · rw [j6, hv]; exact m9
  · rw [j1]
  · rw [j7]; exact hM t ht v
theorem CS.six {H : Hp} {A γ : Nat → Nat} {s : Sv} {c' G' T' N' K' W' : Nat → Int32} (c : CS H A γ s) : CS (wL H (((A 8), c') :: ((A 7), G') :: ((A 5), T') :: ((A 4), N') :: ((A 3), K') :: ((A 1), W') :: [])) A γ s := c.setA (L := [(8, c'), (7, G'), (5, T'), (4, N'), (3, K'), (1, W')]) (ltL rfl)
theorem CI.six {H : Hp} {A γ : Nat → Nat} {s : Sv} {c' G' T' N' K' W' : Nat → Int32} (c : CI H A s) (F : Fx H A γ) : CI (wL H (((A 8), c') :: ((A 7), G') :: ((A 5), T') :: ((A 4), N') :: ((A 3), K') :: ((A 1), W') :: [])) A s := by
  refine c.fr (fun k h1 h2 => ?_)
  refine wA_not (L := [(8, c'), (7, G'), (5, T'), (4, N'), (3, K'), (1, W')]) F h2 (ltL rfl) (fun p hp => ?_)
  simp only [List.mem_cons, List.not_mem_nil, or_false] at hp
  rcases hp with rfl | rfl | rfl | rfl | rfl | rfl
  · exact (show 8 ≠ k by omega)
  · exact (show 7 ≠ k by omega)
  · exact (show 5 ≠ k by omega)
  · exact (show 4 ≠ k by omega)
  · exact (show 3 ≠ k by omega)
  · exact (show 1 ≠ k by omega)
/-- nothing stands beyond eight shops -/
def Hi8 (B : Bu) : Prop := ∀ i, 8 ≤ i → B.2.2 i = fun _ => 0
theorem Hi8_v {h : Hp} {b : Nat} : Hi8 (vB h b) := fun i hi => if_neg (by omega)
theorem nB_hi {B : Bu} (h : Hi8 B) : nB B = B := by
  obtain ⟨c, w, sh'⟩ := B
  show (c, w, fun i => if i < 8 then sh' i else fun _ => 0) = (c, w, sh')
  have e : (fun i => if i < 8 then sh' i else fun _ => (0 : Int32)) = sh' := by
    funext i
    by_cases k : i < 8
    · rw [if_pos k]
    · rw [if_neg k]; exact (h i (by omega)).symm
  rw [e]
theorem Hi8_sh {T : Nat → Int32} {n : Nat} : ∀ (d i : Nat) (q : Ps) (V : Nat → Int32) (B : Bu), i + d = 8 → Hi8 B → Hi8 (Y_sh T n d i q V B).2.2.2
  | 0, i, q, V, B, _, h => by
    rw [Y_sh]
    split
    · exact h
    · exact h
  | d + 1, i, q, V, B, hd, h => by
    rw [Y_sh]
    split
    · exact h
    · split
      · next c =>
        refine Hi8_sh d (i + 1) _ _ _ (by omega) ?_
        rw [Y_shop1_t c]
        intro j hj
        show u1 B.2.2 i _ j = _
        rw [u1_ne (by omega)]
        exact h j hj
      · unfold Y_shop1
        dsimp only
        split
        · split
          · split
            · intro j hj
              show u1 B.2.2 i _ j = _
              rw [u1_ne (by omega)]
              exact h j hj
            · exact h
          · exact h
        · exact h
theorem Hi8_setup {T : Nat → Int32} {n : Nat} {q : Ps} {V : Nat → Int32} {B : Bu} (h : Hi8 B) (hy : (Y_setup T n q V B).1 = true) : Hi8 (Y_setup T n q V B).2.2.2 := by
  unfold Y_setup at hy ⊢
  dsimp only at hy ⊢
  split at hy
  · next h1 =>
    rw [if_pos h1]
    split at hy
    · next h2 =>
      rw [if_pos h2]
      obtain ⟨r, hr, e⟩ := Y_bur_t9 h1
      have iv := Y_weights_inv (T := T) (n := n) (q := (Y_bur T n (Y_start T n q) V B).2.1) (B := (Y_bur T n (Y_start T n q) V B).2.2.2) (nw := 0) (by rw [e]; rfl) (by decide)
      refine Hi8_sh 8 0 _ _ _ rfl (fun i hi => ?_)
      rw [iv.2.2.2, e]
      exact h i hi
    · cases hy
  · cases hy
/-- the model's blocks when block 0 went to the past and changed -/
theorem mir_chg {G G2 : Nat → Int32} {s : Sv} {nw sc ni : Nat} {B Y : Bu} {d' : Bd} (s8 : sc ≤ 8) (k8 : sK s ≤ 8) (z : Mir G 0 (nw, sc, ni, B)) (hM : ∀ t, t ≤ 10 → Vt s t → Mir G t (sD s t)) (h0 : Mir G2 0 d') (h1 : ∀ q, q < 140 → G2 (q + 140 * (1 + nxS s)) = G q) (h2 : ∀ t, t ≤ 10 → t ≠ 0 → t ≠ 1 + nxS s → ∀ q, q < 140 → G2 (q + 140 * t) = G (q + 140 * t)) : ∀ t, t ≤ 10 → Vt (stS (rmS s (nw, sc, ni, nB (P_copy nw sc Y B))) d') t → Mir G2 t (sD (stS (rmS s (nw, sc, ni, nB (P_copy nw sc Y B))) d') t) := fun t ht v => by
  have v : Vt (rmS s (nw, sc, ni, nB (P_copy nw sc Y B))) t := v
  by_cases t0 : t = 0
  · subst t0; exact h0
  · rw [sD_st t0]
    by_cases tn : t = 1 + nxS s
    · rw [tn, sD_rm0]
      have k : Mir (KC G 0 (1 + nxS s)) (1 + nxS s) (nw, sc, ni, nB (P_copy nw sc Y B)) := z.copy rfl rfl (fun g => by show enc nw sc (nB (P_copy nw sc Y B)) g = enc nw sc B g; rw [enc_nB s8, enc_copy]) (by show P_money (nB (P_copy nw sc Y B)).2.2 sc = P_money B.2.2 sc; rw [money_nB s8, money_copy])
      refine k.cong (fun q hq => ?_)
      rw [h1 q hq]
      unfold KC
      rw [if_pos (by omega)]
      congr 1
      omega
    · rw [sD_rm tn]
      exact (hM t ht (Vt_rm k8 v tn)).cong (h2 t ht t0 tn)
theorem SP.chg2 {s : Sv} {i nw sc ni U U' : Nat} {B Y : Bu} {d' : Bd} (k8 : sK s ≤ 8) (o8 : sO s < 8) (n0 : sN s = 0) (hx : (sX s).length ≤ 14 ∧ ∀ b, b ∈ sX s → ∃ k, k < 128 ∧ b = nI k) (d : sD s 0 = (nw, sc, ni, B)) (hU : U ≤ U') (hU' : U' ≤ 520 * (i + 1)) (p4 : ∀ t, t ≤ 10 → Vt s t → 0 < (sD s t).1 ∧ Gd (sD s t).2.2.2 (sD s t).1 (sD s t).2.1 (sD s t).2.2.1 U ∧ Pb U (sD s t).2.2.2 (sD s t).2.1) (hd : 0 < d'.1 ∧ Gd d'.2.2.2 d'.1 d'.2.1 d'.2.2.1 U' ∧ Pb U' d'.2.2.2 d'.2.1) : SP (stS (rmS s (nw, sc, ni, nB (P_copy nw sc Y B))) d') (i + 1) := by
  obtain ⟨q1, q2, q3⟩ := okS_1 o8 k8
  have z := p4 0 (by decide) (Or.inl rfl)
  rw [d] at z
  obtain ⟨w0, g0, p0⟩ := z
  have s8 : sc ≤ 8 := g0.1.2.2.2.1
  refine ⟨⟨q1, q2, by show sN s ≤ 500; omega⟩, hx, U', by show U' + 26 * sN s ≤ 520 * (i + 1); omega, fun t ht v => ?_⟩
  have v : Vt (rmS s (nw, sc, ni, nB (P_copy nw sc Y B))) t := v
  by_cases t0 : t = 0
  · subst t0; exact hd
  · rw [sD_st t0]
    by_cases tn : t = 1 + nxS s
    · rw [tn, sD_rm0]
      exact ⟨w0, Gd_nB ((Gd_copy g0).mono hU), Pb_nB ((Pb_copy p0).mono hU) s8⟩
    · rw [sD_rm tn]
      obtain ⟨y1, y2, y3⟩ := p4 t ht (Vt_rm k8 v tn)
      exact ⟨y1, y2.mono hU, y3.mono hU⟩
theorem rQ_k {c0 : Nat → Int32} {cm : Nat} {q : Ps} {w : Int32} {k : Nat} (h : k ∉ [14, 8, 9, 10, 11, 6, 7]) : rQ c0 cm q w k = c0 k := by
  simp only [List.mem_cons, List.not_mem_nil, or_false, not_or] at h
  obtain ⟨h1, h2, h3, h4, h5, h6, h7⟩ := h
  unfold rQ rM
  rw [u1_ne h7, u1_ne h6, u1_ne h5, u1_ne h4, u1_ne h3, u1_ne h2, u1_ne h1]
theorem rQ_6 {c0 : Nat → Int32} {cm : Nat} {q : Ps} {w : Int32} : rQ c0 cm q w 6 = q.2.2.1 := by
  unfold rQ rM
  rw [u1_ne (by decide), u1_same]
theorem rQ_7 {c0 : Nat → Int32} {cm : Nat} {q : Ps} {w : Int32} : rQ c0 cm q w 7 = q.2.2.2 := by
  unfold rQ rM
  rw [u1_same]
/-- kpC's fields -/
theorem kp_1 {c : Nat → Int32} {s : Sv} (h1 : c 1 = nI (sO s)) : kpC c (sO s) (sK s) 1 = nI (okS s).1 := by
  unfold kpC okS
  split
  · rw [u1_same]
  · rw [u1_ne (by decide)]; exact h1
theorem kp_2 {c : Nat → Int32} {s : Sv} (h2 : c 2 = nI (sK s)) : kpC c (sO s) (sK s) 2 = nI (okS s).2 := by
  unfold kpC okS
  split
  · next k => rw [u1_ne (by decide), h2, k]
  · rw [u1_same]
theorem kp_k {c : Nat → Int32} {o k j : Nat} (h1 : j ≠ 1) (h2 : j ≠ 2) : kpC c o k j = c j := by
  unfold kpC
  split
  · rw [u1_ne h1]
  · rw [u1_ne h2]
