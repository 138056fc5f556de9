/-! ANSWERS: changes that are remembered -/
theorem Vt_st {s : Sv} {d : Bd} {u : Nat} : Vt (stS s d) u ↔ Vt s u := Iff.rfl
theorem sD_st0 {s : Sv} {d : Bd} : sD (stS s d) 0 = d := rfl
theorem sD_st {s : Sv} {d : Bd} {u : Nat} (h : u ≠ 0) : sD (stS s d) u = sD s u := if_neg h
theorem sD_rm0 {s : Sv} {d : Bd} : sD (rmS s d) (1 + nxS s) = d := if_pos rfl
theorem sD_rm {s : Sv} {d : Bd} {u : Nat} (h : u ≠ 1 + nxS s) : sD (rmS s d) u = sD s u := if_neg h
/-- what the history keeps -/
def QR (h : Hp) (A : Nat → Nat) (s : Sv) (nw sc : Nat) (B : Bu) (h9 : Hp) : Prop := ∃ pk h2, Slot h (A 13) (nxS s) pk h2 ∧ h9 = sA (wB h2 pk (P_copy nw sc (vB h2 pk) B)) (A 12) (hyR (hI h (A 12)) (nxS s) (sK s))
theorem QR_ct {E : En} {h : Hp} {A γ : Nat → Nat} {s : Sv} {nw sc ni U b : Nat} {B : Bu} (c : CS h A γ s) (ci : CI h A s) (k8 : sK s ≤ 8) (hb : hR h (A 22) 2 = some b) (vb : vB h b = B) (hG : Gd B nw sc ni U) : CT E m_HI_remember [.ref (A 12), .ref b] h 11 156 (fun v h9 => v = none ∧ QR h A s nw sc B h9) noX := by
  have n8 : nxS s < 8 := Nat.mod_lt _ (by decide)
  have hb0 : bA h A 0 = some b := hb
  have Bb := c.2.2.2.1.1 0 b (by decide) hb0
  have k := cr_HI_remember (E := E) (h := h) (hy := (A 12)) (pp := (A 13)) (b := b) (nx := nxS s) (cnt := sK s) (nw := nw) (sc := sc) (ni := ni) (U := U) c.1.2.2.2.2.1 ci.1.1 ci.1.2 n8 k8 Bb.1 (by rw [vb]; exact hG) (fun pk hp => by
    have hpk : bA h A (1 + nxS s) = some pk := by rw [bA_pp n8]; exact hp
    have P := c.2.2.2.1.1 (1 + nxS s) pk (by omega) hpk
    exact ⟨P.1, P.dis Bb (fun z => absurd (c.2.2.2.1.2 (1 + nxS s) 0 b (by omega) (by decide) (by rw [← z]; exact hpk) hb0) (by omega))⟩)
  rw [vb] at k
  exact k
theorem QR_use {h h9 : Hp} {A γ : Nat → Nat} {s : Sv} {nw sc : Nat} {B : Bu} (c : CS h A γ s) (ns : NS h A s) (ci : CI h A s) (o8 : sO s < 8) (k8 : sK s ≤ 8) (q : QR h A s nw sc B h9) : ∃ γ' Y, CS h9 A γ' (rmS s (nw, sc, (sD s 0).2.2.1, nB (P_copy nw sc Y B))) ∧ NS h9 A (rmS s (nw, sc, (sD s 0).2.2.1, nB (P_copy nw sc Y B))) ∧ CI h9 A (rmS s (nw, sc, (sD s 0).2.2.1, nB (P_copy nw sc Y B))) ∧ (∀ i, i < 23 → i ≠ 12 → hI h9 (A i) = hI h (A i)) ∧ hR h9 (A 22) = hR h (A 22) ∧ hK h9 (A 22) = hK h (A 22) ∧ ∀ u b, u < 12 → u ≠ 1 + nxS s → bA h A u = some b → bA h9 A u = some b ∧ vB h9 b = vB h b ∧ ∀ i, i < 8 → sh h9 b i = sh h b i := by
  obtain ⟨pk, h2, sl, rfl⟩ := q
  obtain ⟨γ', c1, c2, c3, c4, c5, c6⟩ := c.rem (X := P_copy nw sc (vB h2 pk) B) (d := (nw, sc, (sD s 0).2.2.1, nB (P_copy nw sc (vB h2 pk) B))) ns ci o8 k8 sl rfl
  have kp := sl.kp
  have kpp : hK h (A 13) = 25 := c.1.2.2.2.2.1.2.2.1
  refine ⟨γ', vB h2 pk, c1, c2, c3, c4, c5, (kp (A 22) (by rw [c.1.1.1]; decide)).2.2.1, fun u b hu hn hub => ?_⟩
  obtain ⟨d1, d2⟩ := c6 u b hu hn hub
  exact ⟨d1, d2, ((c.2.2.2.1.1 u b hu hub).1.kp kp kpp).2.2.1⟩
theorem QR_Kx {h h9 : Hp} {A γ : Nat → Nat} {s : Sv} {nw sc b : Nat} {B : Bu} (c : CS h A γ s) (ns : NS h A s) (ci : CI h A s) (o8 : sO s < 8) (k8 : sK s ≤ 8) (hb : hR h (A 22) 2 = some b) (vb : vB h b = B) (q : QR h A s nw sc B h9) : Kx h h9 (A 22) b B := by
  obtain ⟨γ', Y, c1, c2, c3, c4, c5, c6, c7⟩ := QR_use c ns ci o8 k8 q
  obtain ⟨d1, d2, d3⟩ := c7 0 b (by decide) (by omega) hb
  exact ⟨(c1.2.2.2.1.1 0 b (by decide) d1).1, d2.trans vb, d3, c5, c6⟩
/-- the model: keep, then a change of block 0 -/
theorem ME.chg {H : Hp} {A γ : Nat → Nat} {s : Sv} {nw sc ni ni' : Nat} {B B' Y : Bu} (m : ME H A s) (F : Fx H A γ) (d : sD s 0 = (nw, sc, ni, B)) (n6 : nw ≤ 6) (s8 : sc ≤ 8) (k8 : sK s ≤ 8) (hm : P_money B'.2.2 sc = P_money B.2.2 sc) : ME (wL H (((A 8), kpC (u1 (hI H (A 8)) 17 0) (sO s) (sK s)) :: ((A 7), enc nw sc B' (KC (enc nw sc B (hI H (A 7))) 0 (1 + (sO s + sK s) % 8))) :: [])) A (stS (rmS s (nw, sc, ni, nB (P_copy nw sc Y B))) (nw, sc, ni', nB B')) := by
  obtain ⟨⟨m1, m2, m3, m4, m5, m6⟩, m7, m8, m9, m10, m11⟩ := m
  have z := m11 0 (by decide) (Or.inl rfl)
  rw [d] at z
  have e := z.z n6 s8
  have hl2 := mem2 (f := kpC (u1 (hI H (A 8)) 17 0) (sO s) (sK s)) (g := enc nw sc B' (KC (enc nw sc B (hI H (A 7))) 0 (1 + (sO s + sK s) % 8))) (show 8 < 23 by decide) (show 7 < 23 by decide)
  have e9 : wL H (((A 8), kpC (u1 (hI H (A 8)) 17 0) (sO s) (sK s)) :: ((A 7), enc nw sc B' (KC (enc nw sc B (hI H (A 7))) 0 (1 + (sO s + sK s) % 8))) :: []) = wA H A [(8, kpC (u1 (hI H (A 8)) 17 0) (sO s) (sK s)), (7, enc nw sc B' (KC (enc nw sc B (hI H (A 7))) 0 (1 + (sO s + sK s) % 8)))] := rfl
  rw [e9]
  have j8 := wA_at (h := H) F (show 8 < 23 by decide) hl2
  have j7 := wA_at (h := H) F (show 7 < 23 by decide) hl2
  have jo : ∀ k, k < 23 → k ≠ 8 → k ≠ 7 → hI (wA H A [(8, kpC (u1 (hI H (A 8)) 17 0) (sO s) (sK s)), (7, enc nw sc B' (KC (enc nw sc B (hI H (A 7))) 0 (1 + (sO s + sK s) % 8)))]) (A k) = hI H (A k) := fun k hk n1 n2 => wA_not F hk hl2 (ne2 (Ne.symm n1) (Ne.symm n2))
  have j8 : hI (wA H A [(8, kpC (u1 (hI H (A 8)) 17 0) (sO s) (sK s)), (7, enc nw sc B' (KC (enc nw sc B (hI H (A 7))) 0 (1 + (sO s + sK s) % 8)))]) (A 8) = kpC (u1 (hI H (A 8)) 17 0) (sO s) (sK s) := j8
  have j7 : hI (wA H A [(8, kpC (u1 (hI H (A 8)) 17 0) (sO s) (sK s)), (7, enc nw sc B' (KC (enc nw sc B (hI H (A 7))) 0 (1 + (sO s + sK s) % 8)))]) (A 7) = enc nw sc B' (KC (enc nw sc B (hI H (A 7))) 0 (1 + (sO s + sK s) % 8)) := j7
  have kf : ∀ k, k ≠ 17 → k ≠ 1 → k ≠ 2 → kpC (u1 (hI H (A 8)) 17 0) (sO s) (sK s) k = hI H (A 8) k := fun k h17 h1 h2 => by
    unfold kpC
    split
    · rw [u1_ne h1, u1_ne h17]
    · rw [u1_ne h2, u1_ne h17]
  refine ⟨⟨?_, ?_, ?_, ?_, ?_, ?_⟩, ?_, ?_, ?_, ?_, fun t ht v => ?_⟩
  · rw [j8]
    show kpC (u1 (hI H (A 8)) 17 0) (sO s) (sK s) 1 = nI (okS s).1
    unfold kpC okS
    split
    · rw [u1_same]
    · rw [u1_ne (by decide), u1_ne (by decide)]; exact m1
  · rw [j8]
    show kpC (u1 (hI H (A 8)) 17 0) (sO s) (sK s) 2 = nI (okS s).2
    unfold kpC okS
    split
    · next c => rw [u1_ne (by decide), u1_ne (by decide), m2, c]
    · rw [u1_same]
  · rw [j8, kf 5 (by decide) (by decide) (by decide)]; exact m3
  · rw [j8, kf 6 (by decide) (by decide) (by decide)]; exact m4
  · rw [j8, kf 7 (by decide) (by decide) (by decide)]; exact m5
  · rw [j8, kf 16 (by decide) (by decide) (by decide)]; exact m6
  · rw [jo 5 (by decide) (by decide) (by decide)]; exact m7
  · rw [jo 2 (by decide) (by decide) (by decide)]; exact m8
  · rw [jo 6 (by decide) (by decide) (by decide)]; exact m9
  · rw [jo 1 (by decide) (by decide) (by decide)]; exact m10
  · rw [j7, e]
    have v : Vt (rmS s (nw, sc, ni, nB (P_copy nw sc Y B))) t := v
    by_cases t0 : t = 0
    · subst t0
      show Mir _ 0 (nw, sc, ni', nB B')
      refine Mir.set s8 ?_
      rw [hm, ← z.2]
      unfold KC
      rw [if_neg (by omega)]
    · rw [sD_st t0]
      refine Mir.set_o n6 s8 t0 ?_
      by_cases tn : t = 1 + nxS s
      · rw [tn, sD_rm0]
        show Mir (KC (hI H (A 7)) 0 (1 + nxS s)) (1 + nxS s) (nw, sc, ni, nB (P_copy nw sc Y B))
        exact z.copy rfl rfl (fun g => by show enc nw sc (nB (P_copy nw sc Y B)) g = enc nw sc B g; rw [enc_nB s8, enc_copy]) (by show P_money (nB (P_copy nw sc Y B)).2.2 sc = P_money B.2.2 sc; rw [money_nB s8, money_copy])
      · rw [sD_rm tn]
        exact (m11 t ht (Vt_rm k8 v tn)).other tn
theorem SP.chg {s : Sv} {i nw sc ni ni' U' : Nat} {B B' Y : Bu} (h : SP s i) (d : sD s 0 = (nw, sc, ni, B)) (g : ∀ U, U + 26 * sN s ≤ 520 * i → Gd B nw sc ni U → Pb U B sc → ∃ U', U ≤ U' ∧ U' ≤ U + 520 ∧ Gd B' nw sc ni' U' ∧ Pb U' B' sc) : SP (stS (rmS s (nw, sc, ni, nB (P_copy nw sc Y B))) (nw, sc, ni', nB B')) (i + 1) := by
  obtain ⟨⟨o8, k8, n5⟩, p2, U, p3, p4⟩ := h
  obtain ⟨q1, q2, q3⟩ := okS_1 o8 k8
  have z := p4 0 (by decide) (Or.inl rfl)
  rw [d] at z
  obtain ⟨w0, g0, p0⟩ := z
  obtain ⟨U', u1', u2', g1, p1⟩ := g U p3 g0 p0
  have s8 : sc ≤ 8 := g0.1.2.2.2.1
  refine ⟨⟨q1, q2, n5⟩, p2, U', ?_, fun t ht v => ?_⟩
  · show U' + 26 * sN s ≤ 520 * (i + 1)
    omega
  · have v : Vt (rmS s (nw, sc, ni, nB (P_copy nw sc Y B))) t := v
    by_cases t0 : t = 0
    · subst t0
      exact ⟨w0, Gd_nB g1, Pb_nB p1 s8⟩
    · rw [sD_st t0]
      by_cases tn : t = 1 + nxS s
      · rw [tn, sD_rm0]
        exact ⟨w0, Gd_nB ((Gd_copy g0).mono u1'), Pb_nB ((Pb_copy p0).mono u1') s8⟩
      · rw [sD_rm tn]
        obtain ⟨y1, y2, y3⟩ := p4 t ht (Vt_rm k8 v tn)
        exact ⟨y1, y2.mono u1', y3.mono u1'⟩
theorem ch_ok {E : En} {W F M' : Mt} {f : Int32 → Int64} {as : List Value} {h : Hp} {A γ : Nat → Nat} {s : Sv} {i nw sc ni ni' b U : Nat} {B B' : Bu} {z : Int32} (L : LI h A γ s i) (d : sD s 0 = (nw, sc, ni, B)) (hb : hR h (A 22) 2 = some b) (vb : vB h b = B) (hG : Gd B nw sc ni U)
    (hws : ∀ {Q : Int32 → Hp → Prop}, (∀ z h9, Q z h9 → hK h9 (A 0) = 24 ∧ hL h9 (A 0) = 1) → CT E F (.ref (A 22) :: as) h 11 156 (fun v h1 => ∃ z, v = some (.int z) ∧ Q z h1) noX → CT E W (.ref (A 22) :: as ++ [.ref (A 0)]) h 11 156 (fun v h1 => v = some (.int 0) ∧ ∃ z h9, Q z h9 ∧ h1 = sJ h9 (A 0) 0 (f z)) noX)
    (hc : ∀ {Q : Hp → Prop}, CT E m_HI_remember [.ref (A 12), .ref b] h 11 156 (fun v h9 => v = none ∧ Q h9) noX → (∀ h9, Q h9 → Kx h h9 (A 22) b B) → CT E F (.ref (A 22) :: as) h 11 156 (fun v h1 => ∃ h9, Q h9 ∧ v = some (.int z) ∧ h1 = wB h9 b B') noX)
    (hm : ∀ (h1 : Hp) (c g : Nat → Int32), MoOk h1 (A 8) (A 7) → c 1 = nI (sO s) → c 2 = nI (sK s) → CR E M' (.ref (A 8) :: as) (wL h1 (((A 8), c) :: ((A 7), enc nw sc B g) :: [])) (some (.int z)) (wL h1 (((A 8), kpC (u1 c 17 0) (sO s) (sK s)) :: ((A 7), enc nw sc B' (KC (enc nw sc B g) 0 (1 + (sO s + sK s) % 8))) :: [])))
    (hmon : P_money B'.2.2 sc = P_money B.2.2 sc) (g : ∀ U, U + 26 * sN s ≤ 520 * i → Gd B nw sc ni U → Pb U B sc → ∃ U', U ≤ U' ∧ U' ≤ U + 520 ∧ Gd B' nw sc ni' U' ∧ Pb U' B' sc) : AnsW E W M' f as h A i := by
  obtain ⟨CSh, NSh, CIh, MEh, SPh⟩ := id L
  obtain ⟨o8, k8, n5⟩ := SPh.1
  have n6 := hG.1.2.1
  have s8 := hG.1.2.2.2.1
  have d3 : (sD s 0).2.2.1 = ni := by rw [d]
  refine (hws (Q := fun z' h9' => z' = z ∧ ∃ h9, QR h A s nw sc B h9 ∧ h9' = wB h9 b B') (fun z' h9' q => ?_) ((hc (QR_ct CSh CIh k8 hb vb hG) (fun h9 q => QR_Kx CSh NSh CIh o8 k8 hb vb q)).mono (fun v h1 p => ?_) (fun _ _ z => z))).mono (fun v h1 p => ?_) (fun _ _ z => z)
  · obtain ⟨rfl, h9, q, rfl⟩ := q
    obtain ⟨γ', Y, c1, -⟩ := QR_use CSh NSh CIh o8 k8 q
    exact c1.2.1.2.2.2
  · obtain ⟨h9, q, rfl, rfl⟩ := p
    exact ⟨z, rfl, rfl, h9, q, rfl⟩
  · obtain ⟨rfl, z', h9', ⟨rfl, h9, q, rfl⟩, rfl⟩ := p
    obtain ⟨γ', Y, c1, c2, c3, c4, c5, c6, c7⟩ := QR_use CSh NSh CIh o8 k8 q
    rw [d3] at c1 c2 c3
    obtain ⟨b9, v9, -⟩ := c7 0 b (by decide) (by omega) hb
    have CS2 : CS (wB h9 b B') A γ' (stS (rmS s (nw, sc, ni, nB (P_copy nw sc Y B))) (nw, sc, ni', nB B')) := c1.setB (t := 0) (by decide) b9 (fun u hu v n => ⟨v, by rw [sD_st n]⟩) (fun _ _ => rfl)
    have wf : ∀ k, k < 23 → hI (wB h9 b B') (A k) = hI h9 (A k) := fun k hk => wB_fix c1 (t := 0) (by decide) b9 hk
    have CS3 : CS (sJ (wB h9 b B') (A 0) 0 (f z')) A γ' (stS (rmS s (nw, sc, ni, nB (P_copy nw sc Y B))) (nw, sc, ni', nB B')) := CS2.sh ⟨rfl, rfl, rfl⟩ (fun _ _ _ _ _ => rfl)
    have NS3 : NS (sJ (wB h9 b B') (A 0) 0 (f z')) A (stS (rmS s (nw, sc, ni, nB (P_copy nw sc Y B))) (nw, sc, ni', nB B')) := NS.sh c2 ⟨rfl, rfl, rfl⟩
    have CI3 : CI (sJ (wB h9 b B') (A 0) 0 (f z')) A (stS (rmS s (nw, sc, ni, nB (P_copy nw sc Y B))) (nw, sc, ni', nB B')) := CI.fr c3 (fun k _ hk => wf k hk)
    have ME3 : ME (sJ (wB h9 b B') (A 0) 0 (f z')) A s := MEh.fr (fun k hk => (wf k (by omega)).trans (c4 k (by omega) (by omega)))
    have hJ1 : hJ (sJ (wB h9 b B') (A 0) 0 (f z')) (A 0) 0 = f z' := if_pos ⟨rfl, rfl⟩
    generalize sJ (wB h9 b B') (A 0) 0 (f z') = H at *
    have z0 := ME3.2.2.2.2.2 0 (by decide) (Or.inl rfl)
    rw [d] at z0
    have e := z0.z n6 s8
    obtain ⟨k1, k2, k3, k4, -⟩ := CS3.2.1.1
    have q := hm H (hI H (A 8)) (hI H (A 7)) ⟨k1, k2, k3, k4⟩ ME3.1.1 ME3.1.2.1
    have M4 := ME3.chg (Y := Y) (ni' := ni') CS3.2.2.1 d n6 s8 k8 hmon
    rw [e] at q M4
    rw [wL2_self] at q
    refine ⟨0, f z', by decide, rfl, k1, fun _ => hJ1, q.mono (fun y h2 p => ?_) (fun _ _ z => z)⟩
    obtain ⟨rfl, rfl⟩ := p
    have hl2 := mem2 (f := kpC (u1 (hI H (A 8)) 17 0) (sO s) (sK s)) (g := enc nw sc B' (KC (hI H (A 7)) 0 (1 + (sO s + sK s) % 8))) (show 8 < 23 by decide) (show 7 < 23 by decide)
    refine ⟨_, rfl, ?_, fun _ => rfl, rfl, γ', _, CS3.setA hl2, NS.sh NS3 ⟨rfl, rfl, rfl⟩, CI.fr CI3 (fun k h1 h2 => wA_not CS3.2.2.1 h2 hl2 (ne2 (by omega) (by omega))), M4, SPh.chg (U' := 0) d g⟩
    show wLf _ _ (A 8) 17 = _
    simp only [wLf, if_true]
    unfold kpC
    split
    · rw [u1_ne (by decide), u1_same]; rfl
    · rw [u1_ne (by decide), u1_same]; rfl
