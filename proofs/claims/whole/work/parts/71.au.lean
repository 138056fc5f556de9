/-! ANSWERS: undo, snapshots -/
theorem fin_ok {E : En} {W M' : Mt} {f : Int32 → Int64} {as : List Value} {h : Hp} {A : Nat → Nat} {i : Nat} {Q : Int32 → Hp → Prop} (hw : CT E W (.ref (A 22) :: as ++ [.ref (A 0)]) h 11 156 (fun v h1 => v = some (.int 0) ∧ ∃ z h9, Q z h9 ∧ h1 = sJ h9 (A 0) 0 (f z)) noX)
    (hm : ∀ z h9, Q z h9 → hK h9 (A 8) = 8 ∧ CT E M' (.ref (A 8) :: as) (sJ h9 (A 0) 0 (f z)) 0 0 (fun y h2 => y = some (.int z) ∧ hI h2 (A 8) 17 = 0 ∧ hJ h2 = hJ (sJ h9 (A 0) 0 (f z)) ∧ LOK h2 A (i + 1)) noX) : AnsW E W M' f as h A i := by
  refine hw.mono (fun v h1 p => ?_) (fun _ _ z => z)
  obtain ⟨rfl, z, h9, q, rfl⟩ := p
  obtain ⟨k1, k2⟩ := hm z h9 q
  refine ⟨0, f z, by decide, rfl, k1, fun _ => if_pos ⟨rfl, rfl⟩, k2.mono (fun y h2 p => ?_) (fun _ _ z => z)⟩
  obtain ⟨rfl, p1, p2, p3⟩ := p
  exact ⟨z, rfl, p1, fun _ => rfl, by rw [p2], p3⟩
theorem fin_er {E : En} {W M' : Mt} {f : Int32 → Int64} {as : List Value} {h : Hp} {A : Nat → Nat} {i code : Nat} {w : Int32} {Q : Hp → Prop} (hcd : code = 1 ∨ code = 2) (hw : w = nI code) (hws : CT E W (.ref (A 22) :: as ++ [.ref (A 0)]) h 11 156 (fun v h1 => v = some (.int w) ∧ Q h1) noX)
    (hm : ∀ h1, Q h1 → hK h1 (A 8) = 8 ∧ CT E M' (.ref (A 8) :: as) h1 0 0 (fun y h2 => (∃ yv, y = some (.int yv)) ∧ hI h2 (A 8) 17 = w ∧ hJ h2 = hJ h1 ∧ LOK h2 A (i + 1)) noX) : AnsW E W M' f as h A i := by
  refine hws.mono (fun v h1 p => ?_) (fun _ _ z => z)
  obtain ⟨rfl, q⟩ := p
  obtain ⟨k1, k2⟩ := hm h1 q
  refine ⟨code, 0, by omega, by rw [hw], k1, fun z => by omega, k2.mono (fun y h2 p => ?_) (fun _ _ z => z)⟩
  obtain ⟨⟨yv, rfl⟩, p1, p2, p3⟩ := p
  exact ⟨yv, rfl, p1.trans hw, fun z => by omega, by rw [p2], p3⟩
theorem Fx.nd_sv {h : Hp} {A γ : Nat → Nat} (F : Fx h A γ) : ((A 8) :: (A 7) :: (A 6) :: (([] : List (Nat × (Nat → Int32))).map Prod.fst)).Nodup := by
  simp only [List.map_nil, List.nodup_cons, List.mem_cons, List.not_mem_nil, or_false, not_or, not_false_eq_true, List.nodup_nil, and_true]
  exact ⟨⟨F.ne (by decide) (by decide) (by decide), F.ne (by decide) (by decide) (by decide)⟩, F.ne (by decide) (by decide) (by decide)⟩
/-- the model's fields and row change -/
theorem ME.two {H : Hp} {A γ : Nat → Nat} {s s' : Sv} {c' G' : Nat → Int32} (m : ME H A s) (F : Fx H A γ) (e : s'.2.2 = s.2.2) (h1 : c' 1 = nI (sO s')) (h2 : c' 2 = nI (sK s')) (hc : ∀ k, k ∈ [5, 6, 7, 16] → c' k = hI H (A 8) k) (hM : ∀ t, t ≤ 10 → Vt s' t → Mir G' t (sD s' t)) : ME (wL H (((A 8), c') :: ((A 7), G') :: [])) A s' := by
  have hl2 := mem2 (f := c') (g := G') (show 8 < 23 by decide) (show 7 < 23 by decide)
  have e9 : wL H (((A 8), c') :: ((A 7), G') :: []) = wA H A [(8, c'), (7, G')] := rfl
  rw [e9]
  have j8 : hI (wA H A [(8, c'), (7, G')]) (A 8) = c' := wA_at F (by decide) hl2
  have j7 : hI (wA H A [(8, c'), (7, G')]) (A 7) = G' := wA_at F (by decide) hl2
  have jo : ∀ k, k < 23 → k ≠ 8 → k ≠ 7 → hI (wA H A [(8, c'), (7, G')]) (A k) = hI H (A k) := fun k hk n1 n2 => wA_not F hk hl2 (ne2 (Ne.symm n1) (Ne.symm n2))
  obtain ⟨⟨m1, m2, m3, m4, m5, m6⟩, m7, m8, m9, m10, m11⟩ := m
  obtain ⟨D', OK', r'⟩ := s'
  have e : r' = s.2.2 := e
  subst e
  refine ⟨⟨?_, ?_, ?_, ?_, ?_, ?_⟩, ?_, ?_, ?_, ?_, fun t ht v => ?_⟩
  · rw [j8]; exact h1
  · rw [j8]; exact h2
  · rw [j8, hc 5 (by decide)]; exact m3
  · rw [j8, hc 6 (by decide)]; exact m4
  · rw [j8, hc 7 (by decide)]; exact m5
  · rw [j8, hc 16 (by decide)]; exact m6
  · rw [jo 5 (by decide) (by decide) (by decide)]; exact m7
  · rw [jo 2 (by decide) (by decide) (by decide)]; exact m8
  · rw [jo 6 (by decide) (by decide) (by decide)]; exact m9
  · rw [jo 1 (by decide) (by decide) (by decide)]; exact m10
  · rw [j7]; exact hM t ht v
/-- and the flags of the snapshots -/
theorem ME.thr3 {H : Hp} {A γ : Nat → Nat} {s s' : Sv} {c' G' V' : Nat → Int32} (m : ME H A s) (F : Fx H A γ) (e : s'.2.2.2 = s.2.2.2) (h1 : c' 1 = nI (sO s')) (h2 : c' 2 = nI (sK s')) (hv : ∀ i, i < 2 → V' i = bI (sV s' i)) (hc : ∀ k, k ∈ [5, 6, 7, 16] → c' k = hI H (A 8) k) (hM : ∀ t, t ≤ 10 → Vt s' t → Mir G' t (sD s' t)) : ME (wL H (((A 8), c') :: ((A 7), G') :: ((A 6), V') :: [])) A s' := by
  have hl3 := mem3 (f := c') (g := G') (k := V') (show 8 < 23 by decide) (show 7 < 23 by decide) (show 6 < 23 by decide)
  have e9 : wL H (((A 8), c') :: ((A 7), G') :: ((A 6), V') :: []) = wA H A [(8, c'), (7, G'), (6, V')] := rfl
  rw [e9]
  have j8 : hI (wA H A [(8, c'), (7, G'), (6, V')]) (A 8) = c' := wA_at F (by decide) hl3
  have j7 : hI (wA H A [(8, c'), (7, G'), (6, V')]) (A 7) = G' := wA_at F (by decide) hl3
  have j6 : hI (wA H A [(8, c'), (7, G'), (6, V')]) (A 6) = V' := wA_at F (by decide) hl3
  have jo : ∀ k, k < 23 → k ≠ 8 → k ≠ 7 → k ≠ 6 → hI (wA H A [(8, c'), (7, G'), (6, V')]) (A k) = hI H (A k) := fun k hk n1 n2 n3 => wA_not F hk hl3 (ne3 (Ne.symm n1) (Ne.symm n2) (Ne.symm n3))
  obtain ⟨⟨m1, m2, m3, m4, m5, m6⟩, m7, m8, m9, m10, m11⟩ := m
  obtain ⟨D', OK', V9, r'⟩ := s'
  have e : r' = s.2.2.2 := e
  subst e
  refine ⟨⟨?_, ?_, ?_, ?_, ?_, ?_⟩, ?_, ?_, ?_, ?_, fun t ht v => ?_⟩
  · rw [j8]; exact h1
  · rw [j8]; exact h2
  · rw [j8, hc 5 (by decide)]; exact m3
  · rw [j8, hc 6 (by decide)]; exact m4
  · rw [j8, hc 7 (by decide)]; exact m5
  · rw [j8, hc 16 (by decide)]; exact m6
  · rw [jo 5 (by decide) (by decide) (by decide) (by decide)]; exact m7
  · rw [jo 2 (by decide) (by decide) (by decide) (by decide)]; exact m8
  · rw [j6]; exact hv
  · rw [jo 1 (by decide) (by decide) (by decide) (by decide)]; exact m10
  · rw [j7]; exact hM t ht v
theorem wL_17 {H : Hp} {m w : Nat} {c' : Nat → Int32} {L : List (Nat × (Nat → Int32))} {v : Int32} (h : c' 17 = v) : hI (wL H ((m, c') :: L)) m 17 = v := by
  show wLf H ((m, c') :: L) m 17 = v
  simp only [wLf, if_true]
  exact h
theorem k17 {c : Nat → Int32} {w : Int32} : ∀ k, k ∈ [5, 6, 7, 16] → u1 c 17 w k = c k := fun k hk => u1_ne (fun z => by subst z; exact absurd hk (by decide))
/-! undo -/
def unS (s : Sv) (d : Bd) : Sv := (fun t => if t = 0 then d else sD s t, (sO s, sK s - 1), s.2.2)
theorem Vt_un {s : Sv} {d : Bd} {u : Nat} (v : Vt (unS s d) u) : Vt s u := by
  rcases v with v | ⟨j, h1, h2⟩ | v
  · exact Or.inl v
  · have h1 : j < sK s - 1 := h1
    exact Or.inr (Or.inl ⟨j, by omega, h2⟩)
  · exact Or.inr (Or.inr v)
theorem sD_un {s : Sv} {d : Bd} {u : Nat} (h : u ≠ 0) : sD (unS s d) u = sD s u := if_neg h
theorem an_undo {E : En} {h : Hp} {A γ : Nat → Nat} {s : Sv} {i : Nat} (hE : (eL E).stackTraces = false) (L : LI h A γ s i) (hi : i ≤ 512) : AnsW E m_LW_undo m_MO_undo fI [] h A i := by
  obtain ⟨nw, sc, ni, U, b, sp, B, d, ⟨k_x, r_x_2, r_x_3⟩, ⟨hB, hN, hD⟩, vb, hw, w0, hG, hP, hU⟩ := L.now
  have n6 := hG.1.2.1
  have s8 := hG.1.2.2.2.1
  have nd := L.1.2.2.1.nd2
  have u9 : U ≤ 266240 := by omega
  obtain ⟨CSh, NSh, CIh, MEh, SPh⟩ := id L
  obtain ⟨o8, k8, n5⟩ := SPh.1
  have F := CSh.2.2.1
  have hH := CSh.1.2.2.2.2.1
  have r_x_4 := CSh.1.1.2.2.2.1
  have n8 : nxS s < 8 := Nat.mod_lt _ (by decide)
  obtain ⟨mo, e1, e2, e3⟩ := L.mform d n6 s8
  by_cases k0 : sK s = 0
  · have c := ce_HS_undo (E := E) (h := h) (pp := (A 13)) (nx := nxS s) hE k_x r_x_2 r_x_4 hH (by rw [CIh.1.1, k0]) CIh.1.2 n8
    refine fin_er (code := 1) (w := 1) (Q := fun h1 => h1 = h) (Or.inl rfl) rfl (we_undo_1 (out := (A 0)) k_x c (by decide) (by decide)) (fun h1 q => ?_)
    subst q
    have k := cr_MO_undoN (E := E) (h := h1) (m := (A 8)) (st := (A 7)) (c := hI h1 (A 8)) (G0 := hI h1 (A 7)) (R := []) mo nd (by rw [MEh.1.2.1, k0]; rfl)
    rw [wL2_self] at k
    refine ⟨mo.1, k.mono (fun y h2 p => ?_) (fun _ _ z => z)⟩
    obtain ⟨rfl, rfl⟩ := p
    exact ⟨⟨0, rfl⟩, wL_17 (w := 0) (u1_same _ _ _), rfl, L.thr⟩
  · have ht : 1 + (sO s + (sK s - 1)) % 8 ≤ 10 := by omega
    have vt : Vt s (1 + (sO s + (sK s - 1)) % 8) := Or.inr (Or.inl ⟨sK s - 1, by omega, rfl⟩)
    obtain ⟨pk, p1, p2⟩ := CSh.2.2.2.2.2 _ ht vt
    obtain ⟨U2, u3, u4⟩ := SPh.2.2
    have g9 := u4 _ ht vt
    have m9 := MEh.2.2.2.2.2 _ ht vt
    obtain ⟨⟨nw2, sc2, ni2, B2⟩, d2⟩ : ∃ d, sD s (1 + (sO s + (sK s - 1)) % 8) = d := ⟨_, rfl⟩
    rw [d2] at p2 g9 m9
    obtain ⟨w2, g2, q2⟩ := g9
    have s82 : sc2 ≤ 8 := g2.1.2.2.2.1
    have pvn : pv (nxS s) = (sO s + (sK s - 1)) % 8 := by
      unfold pv nxS
      split <;> omega
    have hpk : hR h (A 13) (pv (nxS s)) = some pk := by
      rw [pvn, ← bA_pp (Nat.mod_lt _ (by decide))]; exact p1
    have Pk := CSh.2.2.2.1.1 _ pk (by omega) p1
    have Bb := CSh.2.2.2.1.1 0 b (by decide) r_x_2
    have c := cs_HS_undo (E := E) (h := h) (nx := nxS s) (cnt := sK s) (nw := nw2) (sc := sc2) (ni := ni2) (U := U2) k_x r_x_2 r_x_4 hH CIh.1.1 CIh.1.2 n8 k8 (by omega) hB hpk Pk.1 (Bb.dis Pk (fun z => absurd (CSh.2.2.2.1.2 0 (1 + (sO s + (sK s - 1)) % 8) b (by decide) (by omega) r_x_2 (by rw [z]; exact p1)) (by omega))) (by rw [p2]; exact g2)
    rw [p2, vb] at c
    refine fin_ok (ws_undo (out := (A 0)) (Q := fun z h9 => z = nI (sK s - 1) ∧ h9 = sA (wB h b (P_copy nw2 sc2 B B2)) (A 12) (u1 (u1 (hI h (A 12)) 2 (nI (pv (nxS s)))) 1 (nI (sK s - 1)))) k_x (fun z h9 q => by rw [q.2]; exact CSh.2.1.2.2.2) (c.mono (fun v h1 p => ⟨_, p.1, rfl, p.2⟩) (fun _ _ z => z)) (by decide) (by decide)) (fun z h9 q => ?_)
    obtain ⟨rfl, rfl⟩ := q
    have CS1 : CS (wB h b (P_copy nw2 sc2 B B2)) A γ (unS s (nw2, sc2, ni2, nB (P_copy nw2 sc2 B B2))) := CSh.setB (t := 0) (by decide) r_x_2 (fun u hu v n => ⟨Vt_un v, by rw [sD_un n]⟩) (fun _ _ => rfl)
    have wf : ∀ k, k < 23 → hI (wB h b (P_copy nw2 sc2 B B2)) (A k) = hI h (A k) := fun k hk => wB_fix CSh (t := 0) (by decide) r_x_2 hk
    have CS2 : CS (sJ (sA (wB h b (P_copy nw2 sc2 B B2)) (A 12) (u1 (u1 (hI h (A 12)) 2 (nI (pv (nxS s)))) 1 (nI (sK s - 1)))) (A 0) 0 (fI (nI (sK s - 1)))) A γ (unS s (nw2, sc2, ni2, nB (P_copy nw2 sc2 B B2))) := (CS1.fix (h2 := sA (wB h b (P_copy nw2 sc2 B B2)) (A 12) (u1 (u1 (hI h (A 12)) 2 (nI (pv (nxS s)))) 1 (nI (sK s - 1)))) ⟨rfl, rfl, rfl⟩ (fun q hq => if_neg (hq 12 (by decide)))).sh ⟨rfl, rfl, rfl⟩ (fun _ _ _ _ _ => rfl)
    have io : ∀ k, k < 23 → k ≠ 12 → hI (sJ (sA (wB h b (P_copy nw2 sc2 B B2)) (A 12) (u1 (u1 (hI h (A 12)) 2 (nI (pv (nxS s)))) 1 (nI (sK s - 1)))) (A 0) 0 (fI (nI (sK s - 1)))) (A k) = hI h (A k) := fun k hk n => (if_neg (F.ne hk (by decide) n)).trans (wf k hk)
    have i12 : hI (sJ (sA (wB h b (P_copy nw2 sc2 B B2)) (A 12) (u1 (u1 (hI h (A 12)) 2 (nI (pv (nxS s)))) 1 (nI (sK s - 1)))) (A 0) 0 (fI (nI (sK s - 1)))) (A 12) = u1 (u1 (hI h (A 12)) 2 (nI (pv (nxS s)))) 1 (nI (sK s - 1)) := if_pos rfl
    have NS2 : NS (sJ (sA (wB h b (P_copy nw2 sc2 B B2)) (A 12) (u1 (u1 (hI h (A 12)) 2 (nI (pv (nxS s)))) 1 (nI (sK s - 1)))) (A 0) 0 (fI (nI (sK s - 1)))) A (unS s (nw2, sc2, ni2, nB (P_copy nw2 sc2 B B2))) := NS.sh NSh ⟨rfl, rfl, rfl⟩
    generalize sJ (sA (wB h b (P_copy nw2 sc2 B B2)) (A 12) (u1 (u1 (hI h (A 12)) 2 (nI (pv (nxS s)))) 1 (nI (sK s - 1)))) (A 0) 0 (fI (nI (sK s - 1))) = H at *
    have CI2 : CI H A (unS s (nw2, sc2, ni2, nB (P_copy nw2 sc2 B B2))) := by
      refine ⟨⟨?_, ?_⟩, ?_, ?_, ?_⟩
      · rw [i12, u1_same]; rfl
      · rw [i12, u1_ne (by decide), u1_same, pvn]; rfl
      · rw [io 15 (by decide) (by decide), io 16 (by decide) (by decide)]; exact CIh.2.1
      · rw [io 14 (by decide) (by decide)]; exact CIh.2.2.1
      · rw [io 9 (by decide) (by decide), io 10 (by decide) (by decide)]; exact CIh.2.2.2
    have ME2 : ME H A s := MEh.fr (fun k hk => io k (by omega) (by omega))
    obtain ⟨k1, k2, k3, k4, -⟩ := CS2.2.1.1
    have k := cr_MO_undo (E := E) (h := H) (m := (A 8)) (st := (A 7)) (c := hI H (A 8)) (G0 := hI H (A 7)) (R := []) ⟨k1, k2, k3, k4⟩ nd ME2.1.1 ME2.1.2.1 o8 k8 (by omega)
    rw [wL2_self] at k
    refine ⟨mo.1, k.mono (fun y h2 p => ?_) (fun _ _ z => z)⟩
    obtain ⟨rfl, rfl⟩ := p
    have hl2 := mem2 (f := u1 (u1 (hI H (A 8)) 17 0) 2 (nI (sK s - 1))) (g := KC (hI H (A 7)) (1 + (sO s + (sK s - 1)) % 8) 0) (show 8 < 23 by decide) (show 7 < 23 by decide)
    have m9' : Mir (hI H (A 7)) (1 + (sO s + (sK s - 1)) % 8) (nw2, sc2, ni2, B2) := by rw [io 7 (by decide) (by decide)]; exact m9
    refine ⟨rfl, wL_17 (w := 0) (by rw [u1_ne (by decide), u1_same]), rfl, γ, _, CS2.setA hl2, NS.sh NS2 ⟨rfl, rfl, rfl⟩, CI.fr CI2 (fun k h1 h2 => wA_not CS2.2.2.1 h2 hl2 (ne2 (by omega) (by omega))), ME2.two CS2.2.2.1 rfl (by rw [u1_ne (by decide), u1_ne (by decide)]; exact ME2.1.1) (u1_same _ _ _) (fun k hk => by rw [u1_ne (fun z => by subst z; exact absurd hk (by decide)), k17 k hk]) (fun t ht v => ?_), ?_⟩
    · by_cases t0 : t = 0
      · subst t0
        exact m9'.copy rfl rfl (fun g => by show enc nw2 sc2 (nB (P_copy nw2 sc2 B B2)) g = enc nw2 sc2 B2 g; rw [enc_nB s82, enc_copy]) (by show P_money (nB (P_copy nw2 sc2 B B2)).2.2 sc2 = P_money B2.2.2 sc2; rw [money_nB s82, money_copy])
      · rw [sD_un t0]
        exact (ME2.2.2.2.2.2 t ht (Vt_un v)).other t0
    · refine ⟨⟨o8, by show sK s - 1 ≤ 8; omega, n5⟩, SPh.2.1, U2, by show U2 + 26 * sN s ≤ 520 * (i + 1); omega, fun t ht v => ?_⟩
      by_cases t0 : t = 0
      · subst t0
        exact ⟨w2, Gd_nB (Gd_copy g2), Pb_nB (Pb_copy q2) s82⟩
      · rw [sD_un t0]
        exact u4 t ht (Vt_un v)
