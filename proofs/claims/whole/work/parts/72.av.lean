/-! ANSWERS: snapshots -/
def AnsS (E : En) (W M' : Mt) (as : List Value) (h : Hp) (A : Nat → Nat) (i : Nat) : Prop :=
  CT E W (.ref (A 22) :: as) h 11 156 (fun r h1 => ∃ code : Nat, code ≤ 2 ∧ r = some (.int (nI code)) ∧ hK h1 (A 8) = 8 ∧ CT E M' (.ref (A 8) :: as) h1 0 0 (fun y h2 => y = none ∧ hI h2 (A 8) 17 = nI code ∧ LOK h2 A (i + 1)) noX) noX
def saS (s : Sv) (k : Nat) (d : Bd) : Sv := (fun t => if t = 9 + k then d else sD s t, s.2.1, fun j => if j = k then true else sV s j, s.2.2.2)
theorem sD_sa {s : Sv} {k u : Nat} {d : Bd} (h : u ≠ 9 + k) : sD (saS s k d) u = sD s u := if_neg h
theorem sD_sa0 {s : Sv} {k : Nat} {d : Bd} : sD (saS s k d) (9 + k) = d := if_pos rfl
theorem Vt_sa {s : Sv} {k u : Nat} {d : Bd} (v : Vt (saS s k d) u) (n : u ≠ 9 + k) : Vt s u := by
  rcases v with v | v | ⟨i, h1, h2, h3⟩
  · exact Or.inl v
  · exact Or.inr (Or.inl v)
  · have ne : i ≠ k := fun z => n (by rw [h2, z])
    have h3 : (if i = k then true else sV s i) = true := h3
    rw [if_neg ne] at h3
    exact Or.inr (Or.inr ⟨i, h1, h2, h3⟩)
theorem bit_dec (y : Int32) : (∃ k, k < 2 ∧ y = nI k) ∨ (y < 0 ∨ 1 < y) := by
  rcases num_dec 0 1 y with ⟨a, b⟩ | h
  · have b1 : (0 : Int) ≤ y.toInt := (i_le _ _).mp a
    have b2 : y.toInt ≤ 1 := (i_le _ _).mp b
    exact Or.inl ⟨y.toInt.toNat, by omega, nat_of b1⟩
  · exact Or.inr h
theorem an_saveSnapshot {E : En} {h : Hp} {A γ : Nat → Nat} {s : Sv} {i : Nat} {y : Int32} (hE : (eL E).stackTraces = false) (L : LI h A γ s i) (hi : i ≤ 512) : AnsS E m_LW_saveSnapshot m_MO_saveSnapshot [.int y] h A i := by
  obtain ⟨nw, sc, ni, U, b, sp, B, d, ⟨k_x, r_x_2, r_x_3⟩, ⟨hB, hN, hD⟩, vb, hw, w0, hG, hP, hU⟩ := L.now
  have n6 := hG.1.2.1
  have s8 := hG.1.2.2.2.1
  have nd := L.1.2.2.1.nd2
  have u9 : U ≤ 266240 := by omega
  obtain ⟨CSh, NSh, CIh, MEh, SPh⟩ := id L
  obtain ⟨o8, k8, n5⟩ := SPh.1
  have F := CSh.2.2.1
  obtain ⟨mo, e1, e2, e3⟩ := L.mform d n6 s8
  obtain ⟨v1, v2, v3⟩ := CSh.2.1.2.2.1
  have r_x_5 := CSh.1.1.2.2.2.2.1
  obtain ⟨k_sn, l_sn⟩ := CSh.1.2.2.2.2.2.1
  rcases bit_dec y with ⟨k, k2, rfl⟩ | hrn
  · have Bb := CSh.2.2.2.1.1 0 b (by decide) r_x_2
    have c := cs_HS_saveSnapshot (E := E) (h := h) (s := k) k_x r_x_2 r_x_5 k_sn l_sn k2 hB (by rw [vb]; exact hG) (fun pk hp => by
      have hpk : bA h A (9 + k) = some pk := by rw [bA_sn k2]; exact hp
      have Pk := CSh.2.2.2.1.1 (9 + k) pk (by omega) hpk
      exact ⟨Pk.1, Pk.dis Bb (fun z => absurd (CSh.2.2.2.1.2 (9 + k) 0 b (by omega) (by decide) (by rw [← z]; exact hpk) r_x_2) (by omega))⟩)
    rw [vb] at c
    refine (ws_saveSnapshot (Q := fun h9 => ∃ pk h2, Slot h (A 11) k pk h2 ∧ h9 = wB h2 pk (P_copy nw sc (vB h2 pk) B)) k_x c (by decide) (by decide)).mono (fun v h9 q => ?_) (fun _ _ z => z)
    obtain ⟨rfl, pk, h2, sl, rfl⟩ := q
    obtain ⟨γ', c2, b1, b2, b3, b4, b5, b6⟩ := CSh.slot (n := 11) (t := 9 + k) (Or.inr ⟨rfl, rfl, k2⟩) sl
    have CS1 : CS (wB h2 pk (P_copy nw sc (vB h2 pk) B)) A γ' (saS s k (nw, sc, ni, nB (P_copy nw sc (vB h2 pk) B))) := c2.setB (t := 9 + k) (by omega) b1 (fun u hu v n => ⟨Vt_sa v n, by rw [sD_sa n]⟩) (fun _ _ => by rw [sD_sa0])
    have io : ∀ k', k' < 23 → hI (wB h2 pk (P_copy nw sc (vB h2 pk) B)) (A k') = hI h (A k') := fun k' hk => (wB_fix c2 (t := 9 + k) (by omega) b1 hk).trans (b3 k' hk)
    have NS1 : NS (wB h2 pk (P_copy nw sc (vB h2 pk) B)) A (saS s k (nw, sc, ni, nB (P_copy nw sc (vB h2 pk) B))) := fun j hj v => by
      have v : (if j = k then true else sV s j) = false := v
      have ne : j ≠ k := fun z => by rw [if_pos z] at v; cases v
      rw [if_neg ne] at v
      show hR h2 (A 11) j = none
      rw [b5 j (fun _ => ne)]
      exact NSh j hj v
    generalize hY : vB h2 pk = Y at *
    generalize wB h2 pk (P_copy nw sc Y B) = H at *
    have CI1 : CI H A (saS s k (nw, sc, ni, nB (P_copy nw sc Y B))) := CI.fr (h := h) CIh (fun k' _ hk => io k' hk)
    have ME1 : ME H A s := MEh.fr (fun k' hk => io k' (by omega))
    obtain ⟨w1', w2', w3'⟩ := CS1.2.1.2.2.1
    obtain ⟨k1', k2', k3', k4', -⟩ := CS1.2.1.1
    have q := cr_MO_saveSnapshot (E := E) (h := H) (c := hI H (A 8)) (G0 := hI H (A 7)) (F := hI H (A 6)) (R := []) ⟨k1', k2', k3', k4'⟩ w1' w2' w3' F.nd_sv k2
    rw [wL3_self] at q
    refine ⟨0, by decide, rfl, k1', q.mono (fun y h3 p => ?_) (fun _ _ z => z)⟩
    obtain ⟨rfl, rfl⟩ := p
    have hl3 := mem3 (f := u1 (hI H (A 8)) 17 0) (g := KC (hI H (A 7)) 0 (9 + k)) (k := u1 (hI H (A 6)) k 1) (show 8 < 23 by decide) (show 7 < 23 by decide) (show 6 < 23 by decide)
    have z0 := ME1.2.2.2.2.2 0 (by decide) (Or.inl rfl)
    rw [d] at z0
    refine ⟨rfl, wL_17 (w := 0) (u1_same _ _ _), γ', _, CS1.setA hl3, NS.sh NS1 ⟨rfl, rfl, rfl⟩, CI.fr CI1 (fun k' h1 h2 => wA_not CS1.2.2.1 h2 hl3 (ne3 (by omega) (by omega) (by omega))), ME1.thr3 CS1.2.2.1 rfl (by rw [u1_ne (by decide)]; exact ME1.1.1) (by rw [u1_ne (by decide)]; exact ME1.1.2.1) (fun j hj => ?_) k17 (fun t ht v => ?_), ?_⟩
    · show u1 (hI H (A 6)) k 1 j = bI (if j = k then true else sV s j)
      rw [u1_at]
      split
      · rfl
      · exact ME1.2.2.2.1 j hj
    · by_cases tn : t = 9 + k
      · rw [tn, sD_sa0]
        exact z0.copy rfl rfl (fun g => by show enc nw sc (nB (P_copy nw sc Y B)) g = enc nw sc B g; rw [enc_nB s8, enc_copy]) (by show P_money (nB (P_copy nw sc Y B)).2.2 sc = P_money B.2.2 sc; rw [money_nB s8, money_copy])
      · rw [sD_sa tn]
        exact (ME1.2.2.2.2.2 t ht (Vt_sa v tn)).other tn
    · obtain ⟨U2, u3, u4⟩ := SPh.2.2
      have g0 := u4 0 (by decide) (Or.inl rfl)
      rw [d] at g0
      refine ⟨SPh.1, SPh.2.1, U2, by show U2 + 26 * sN s ≤ 520 * (i + 1); omega, fun t ht v => ?_⟩
      by_cases tn : t = 9 + k
      · rw [tn, sD_sa0]
        exact ⟨w0, Gd_nB (Gd_copy g0.2.1), Pb_nB (Pb_copy g0.2.2) s8⟩
      · rw [sD_sa tn]
        exact u4 t ht (Vt_sa v tn)
  · have c := ce_HS_saveSnapshotR (E := E) hE k_x r_x_2 hB hG hrn
    rw [hw] at c
    refine (we_saveSnapshot_1 k_x c (by decide) (by decide)).mono (fun v h1 q => ?_) (fun _ _ z => z)
    obtain ⟨rfl, rfl⟩ := q
    have q := cr_MO_saveSnapshotR (E := E) (h := h1) (c := hI h1 (A 8)) (G0 := hI h1 (A 7)) (F := hI h1 (A 6)) (R := []) mo v1 v2 v3 F.nd_sv hrn
    rw [wL3_self] at q
    refine ⟨1, by decide, rfl, mo.1, q.mono (fun y h3 p => ?_) (fun _ _ z => z)⟩
    obtain ⟨rfl, rfl⟩ := p
    have hl3 := mem3 (f := u1 (hI h1 (A 8)) 17 1) (g := hI h1 (A 7)) (k := hI h1 (A 6)) (show 8 < 23 by decide) (show 7 < 23 by decide) (show 6 < 23 by decide)
    exact ⟨rfl, wL_17 (w := 1) (u1_same _ _ _), γ, s, CSh.setA hl3, NSh.sh ⟨rfl, rfl, rfl⟩, CIh.fr (fun k' h1 h2 => wA_not F h2 hl3 (ne3 (by omega) (by omega) (by omega))), MEh.thr3 F rfl (by rw [u1_ne (by decide)]; exact MEh.1.1) (by rw [u1_ne (by decide)]; exact MEh.1.2.1) MEh.2.2.2.1 k17 MEh.2.2.2.2.2, SPh.mono (Nat.le_succ i)⟩
theorem an_restoreSnapshot {E : En} {h : Hp} {A γ : Nat → Nat} {s : Sv} {i : Nat} {y : Int32} (hE : (eL E).stackTraces = false) (L : LI h A γ s i) (hi : i ≤ 512) : AnsW E m_LW_restoreSnapshot m_MO_restoreSnapshot fI [.int y] h A i := by
  obtain ⟨nw, sc, ni, U, b, sp, B, d, ⟨k_x, r_x_2, r_x_3⟩, ⟨hB, hN, hD⟩, vb, hw, w0, hG, hP, hU⟩ := L.now
  have n6 := hG.1.2.1
  have s8 := hG.1.2.2.2.1
  have nd := L.1.2.2.1.nd2
  have u9 : U ≤ 266240 := by omega
  obtain ⟨CSh, NSh, CIh, MEh, SPh⟩ := id L
  obtain ⟨o8, k8, n5⟩ := SPh.1
  have F := CSh.2.2.1
  obtain ⟨mo, e1, e2, e3⟩ := L.mform d n6 s8
  obtain ⟨v1, v2, v3⟩ := CSh.2.1.2.2.1
  have r_x_5 := CSh.1.1.2.2.2.2.1
  have r_x_4 := CSh.1.1.2.2.2.1
  have k_hy := CSh.1.2.2.2.2.1.1
  obtain ⟨k_sn, l_sn⟩ := CSh.1.2.2.2.2.2.1
  have back : ∀ w, LOK (wL h (((A 8), u1 (hI h (A 8)) 17 w) :: ((A 7), hI h (A 7)) :: ((A 6), hI h (A 6)) :: [])) A (i + 1) := fun w => by
    have hl3 := mem3 (f := u1 (hI h (A 8)) 17 w) (g := hI h (A 7)) (k := hI h (A 6)) (show 8 < 23 by decide) (show 7 < 23 by decide) (show 6 < 23 by decide)
    exact ⟨γ, s, CSh.setA hl3, NSh.sh ⟨rfl, rfl, rfl⟩, CIh.fr (fun k' h1 h2 => wA_not F h2 hl3 (ne3 (by omega) (by omega) (by omega))), MEh.thr3 F rfl (by rw [u1_ne (by decide)]; exact MEh.1.1) (by rw [u1_ne (by decide)]; exact MEh.1.2.1) MEh.2.2.2.1 k17 MEh.2.2.2.2.2, SPh.mono (Nat.le_succ i)⟩
  rcases bit_dec y with ⟨k, k2, rfl⟩ | hrn
  · cases hsv : sV s k
    · have c := ce_HS_restoreSnapshotE (E := E) (h := h) (s := k) hE k_x r_x_2 r_x_5 k_sn l_sn k2 (NSh k k2 hsv)
      refine fin_er (code := 2) (w := 2) (Q := fun h1 => h1 = h) (Or.inr rfl) rfl (we_restoreSnapshot_2 (out := (A 0)) k_x c (by decide) (by decide)) (fun h1 q => ?_)
      subst q
      have q := cr_MO_restoreSnapshotE (E := E) (h := h1) (c := hI h1 (A 8)) (G0 := hI h1 (A 7)) (F := hI h1 (A 6)) (R := []) mo v1 v2 v3 F.nd_sv k2 (by rw [MEh.2.2.2.1 k k2, hsv]; rfl)
      rw [wL3_self] at q
      refine ⟨mo.1, q.mono (fun y h2 p => ?_) (fun _ _ z => z)⟩
      obtain ⟨rfl, rfl⟩ := p
      exact ⟨⟨0, rfl⟩, wL_17 (w := 0) (u1_same _ _ _), rfl, back 2⟩
    · have ht : 9 + k ≤ 10 := by omega
      have vt : Vt s (9 + k) := Or.inr (Or.inr ⟨k, k2, rfl, hsv⟩)
      obtain ⟨sk, p1, p2⟩ := CSh.2.2.2.2.2 _ ht vt
      have m9 := MEh.2.2.2.2.2 _ ht vt
      obtain ⟨U2, u3, u4⟩ := SPh.2.2
      have g9 := u4 _ ht vt
      obtain ⟨⟨nw2, sc2, ni2, B2⟩, d2⟩ : ∃ d, sD s (9 + k) = d := ⟨_, rfl⟩
      rw [d2] at p2 g9 m9
      obtain ⟨w2, g2, q2⟩ := g9
      have s82 : sc2 ≤ 8 := g2.1.2.2.2.1
      have d3 : (sD s 0).2.2.1 = ni := by rw [d]
      have hsk : hR h (A 11) k = some sk := by rw [← bA_sn k2]; exact p1
      have c := fun {Q : Hp → Prop} (hRm : CT E m_HI_remember [.ref (A 12), .ref b] h 11 156 (fun v h9 => v = none ∧ Q h9) noX) (hQ : ∀ h9, Q h9 → _) => cs_HS_restoreSnapshot (E := E) (h := h) (s := k) (S := B2) (Q := Q) k_x r_x_2 r_x_5 k_sn l_sn r_x_4 k_hy k2 hsk g2 hRm hQ
      have c := c (QR_ct CSh CIh k8 r_x_2 vb hG) (fun h9 q => by
        obtain ⟨γ', Y, c1, c2, c3, c4, c5, c6, c7⟩ := QR_use CSh NSh CIh o8 k8 q
        obtain ⟨b9, vb9, -⟩ := c7 0 b (by decide) (by omega) r_x_2
        obtain ⟨s9, vs9, -⟩ := c7 (9 + k) sk (by omega) (by have : nxS s < 8 := Nat.mod_lt _ (by decide); omega) p1
        have Bb := c1.2.2.2.1.1 0 b (by decide) b9
        have Sb := c1.2.2.2.1.1 (9 + k) sk (by omega) s9
        exact ⟨Bb.1, Sb.1, vs9.trans p2, Bb.dis Sb (fun z => absurd (c1.2.2.2.1.2 0 (9 + k) b (by decide) (by omega) b9 (by rw [z]; exact s9)) (by omega)), c5, c6⟩)
      refine fin_ok (ws_restoreSnapshot (out := (A 0)) (Q := fun z h9' => z = B2.1 9 ∧ ∃ h9, QR h A s nw sc B h9 ∧ h9' = wB h9 b (P_copy nw2 sc2 B B2)) k_x (fun z h9' q => ?_) (c.mono (fun v h1 p => ?_) (fun _ _ z => z)) (by decide) (by decide)) (fun z h9' q => ?_)
      · obtain ⟨rfl, h9, q, rfl⟩ := q
        obtain ⟨γ', Y, c1, -⟩ := QR_use CSh NSh CIh o8 k8 q
        exact c1.2.1.2.2.2
      · obtain ⟨h9, q, rfl, rfl⟩ := p
        obtain ⟨γ', Y, c1, c2, c3, c4, c5, c6, c7⟩ := QR_use CSh NSh CIh o8 k8 q
        obtain ⟨b9, vb9, -⟩ := c7 0 b (by decide) (by omega) r_x_2
        exact ⟨_, rfl, rfl, h9, q, by rw [vb9, vb]⟩
      · obtain ⟨rfl, h9, q, rfl⟩ := q
        obtain ⟨γ', Y, c1, c2, c3, c4, c5, c6, c7⟩ := QR_use CSh NSh CIh o8 k8 q
        rw [d3] at c1 c2 c3
        obtain ⟨b9, vb9, -⟩ := c7 0 b (by decide) (by omega) r_x_2
        have CS2 : CS (wB h9 b (P_copy nw2 sc2 B B2)) A γ' (stS (rmS s (nw, sc, ni, nB (P_copy nw sc Y B))) (nw2, sc2, ni2, nB (P_copy nw2 sc2 B B2))) := c1.setB (t := 0) (by decide) b9 (fun u hu v n => ⟨v, by rw [sD_st n]⟩) (fun _ _ => rfl)
        have wf : ∀ k, k < 23 → hI (wB h9 b (P_copy nw2 sc2 B B2)) (A k) = hI h9 (A k) := fun k hk => wB_fix c1 (t := 0) (by decide) b9 hk
        have CS3 : CS (sJ (wB h9 b (P_copy nw2 sc2 B B2)) (A 0) 0 (fI (B2.1 9))) A γ' (stS (rmS s (nw, sc, ni, nB (P_copy nw sc Y B))) (nw2, sc2, ni2, nB (P_copy nw2 sc2 B B2))) := CS2.sh ⟨rfl, rfl, rfl⟩ (fun _ _ _ _ _ => rfl)
        have NS3 : NS (sJ (wB h9 b (P_copy nw2 sc2 B B2)) (A 0) 0 (fI (B2.1 9))) A (stS (rmS s (nw, sc, ni, nB (P_copy nw sc Y B))) (nw2, sc2, ni2, nB (P_copy nw2 sc2 B B2))) := NS.sh c2 ⟨rfl, rfl, rfl⟩
        have CI3 : CI (sJ (wB h9 b (P_copy nw2 sc2 B B2)) (A 0) 0 (fI (B2.1 9))) A (stS (rmS s (nw, sc, ni, nB (P_copy nw sc Y B))) (nw2, sc2, ni2, nB (P_copy nw2 sc2 B B2))) := CI.fr c3 (fun k _ hk => wf k hk)
        have ME3 : ME (sJ (wB h9 b (P_copy nw2 sc2 B B2)) (A 0) 0 (fI (B2.1 9))) A s := MEh.fr (fun k hk => (wf k (by omega)).trans (c4 k (by omega) (by omega)))
        have km : hK (wB h9 b (P_copy nw2 sc2 B B2)) (A 8) = 8 := CS2.2.1.1.1
        generalize sJ (wB h9 b (P_copy nw2 sc2 B B2)) (A 0) 0 (fI (B2.1 9)) = H at *
        obtain ⟨w1', w2', w3'⟩ := CS3.2.1.2.2.1
        obtain ⟨k1', k2', k3', k4', -⟩ := CS3.2.1.1
        have m9 := ME3.2.2.2.2.2 _ ht vt
        rw [d2] at m9
        have z0 := ME3.2.2.2.2.2 0 (by decide) (Or.inl rfl)
        rw [d] at z0
        have q := cr_MO_restoreSnapshot (E := E) (h := H) (c := hI H (A 8)) (G0 := hI H (A 7)) (F := hI H (A 6)) (R := []) ⟨k1', k2', k3', k4'⟩ w1' w2' w3' F.nd_sv ME3.1.1 ME3.1.2.1 o8 k8 k2 (by rw [ME3.2.2.2.1 k k2, hsv]; rfl)
        rw [wL3_self] at q
        have nx8 : (sO s + sK s) % 8 < 8 := Nat.mod_lt _ (by decide)
        have m9k : Mir (KC (hI H (A 7)) 0 (1 + (sO s + sK s) % 8)) (9 + k) (nw2, sc2, ni2, B2) := m9.other (by omega)
        have v9 : (KC (KC (hI H (A 7)) 0 (1 + (sO s + sK s) % 8)) (9 + k) 0) 9 = B2.1 9 := by
          have e5 : KC (KC (hI H (A 7)) 0 (1 + (sO s + sK s) % 8)) (9 + k) 0 9 = KC (hI H (A 7)) 0 (1 + (sO s + sK s) % 8) (9 + 140 * (9 + k)) := by
            show (if _ then _ else _) = _
            rw [if_pos (by omega)]
          rw [e5, ← m9k.1 9 (by decide)]
          exact enc_c (by decide)
        rw [v9] at q
        refine ⟨km, q.mono (fun y h2 p => ?_) (fun _ _ z => z)⟩
        obtain ⟨rfl, rfl⟩ := p
        have hl3 := mem3 (f := kpC (u1 (hI H (A 8)) 17 0) (sO s) (sK s)) (g := KC (KC (hI H (A 7)) 0 (1 + (sO s + sK s) % 8)) (9 + k) 0) (k := hI H (A 6)) (show 8 < 23 by decide) (show 7 < 23 by decide) (show 6 < 23 by decide)
        have kf : ∀ k, k ≠ 17 → k ≠ 1 → k ≠ 2 → kpC (u1 (hI H (A 8)) 17 0) (sO s) (sK s) k = hI H (A 8) k := fun k h17 h1 h2 => by
          unfold kpC
          split
          · rw [u1_ne h1, u1_ne h17]
          · rw [u1_ne h2, u1_ne h17]
        refine ⟨rfl, wL_17 (w := 0) ?_, rfl, γ', _, CS3.setA hl3, NS.sh NS3 ⟨rfl, rfl, rfl⟩, CI.fr CI3 (fun k' h1 h2 => wA_not CS3.2.2.1 h2 hl3 (ne3 (by omega) (by omega) (by omega))), ME3.thr3 (s' := stS (rmS s (nw, sc, ni, nB (P_copy nw sc Y B))) (nw2, sc2, ni2, nB (P_copy nw2 sc2 B B2))) CS3.2.2.1 rfl ?_ ?_ ME3.2.2.2.1 (fun k hk => kf k (fun z => by subst z; exact absurd hk (by decide)) (fun z => by subst z; exact absurd hk (by decide)) (fun z => by subst z; exact absurd hk (by decide))) (fun t ht v => ?_), ?_⟩
        · unfold kpC
          split
          · rw [u1_ne (by decide), u1_same]
          · rw [u1_ne (by decide), u1_same]
        · show kpC (u1 (hI H (A 8)) 17 0) (sO s) (sK s) 1 = nI (okS s).1
          unfold kpC okS
          split
          · rw [u1_same]
          · rw [u1_ne (by decide), u1_ne (by decide)]; exact ME3.1.1
        · show kpC (u1 (hI H (A 8)) 17 0) (sO s) (sK s) 2 = nI (okS s).2
          unfold kpC okS
          split
          · next c => rw [u1_ne (by decide), u1_ne (by decide), ME3.1.2.1, c]
          · rw [u1_same]
        · have v : Vt (rmS s (nw, sc, ni, nB (P_copy nw sc Y B))) t := v
          by_cases t0 : t = 0
          · subst t0
            exact m9k.copy rfl rfl (fun g => by show enc nw2 sc2 (nB (P_copy nw2 sc2 B B2)) g = enc nw2 sc2 B2 g; rw [enc_nB s82, enc_copy]) (by show P_money (nB (P_copy nw2 sc2 B B2)).2.2 sc2 = P_money B2.2.2 sc2; rw [money_nB s82, money_copy])
          · rw [sD_st t0]
            refine Mir.other ?_ t0
            by_cases tn : t = 1 + nxS s
            · rw [tn, sD_rm0]
              show Mir (KC (hI H (A 7)) 0 (1 + nxS s)) (1 + nxS s) (nw, sc, ni, nB (P_copy nw sc Y B))
              exact z0.copy rfl rfl (fun g => by show enc nw sc (nB (P_copy nw sc Y B)) g = enc nw sc B g; rw [enc_nB s8, enc_copy]) (by show P_money (nB (P_copy nw sc Y B)).2.2 sc = P_money B.2.2 sc; rw [money_nB s8, money_copy])
            · rw [sD_rm tn]
              exact (ME3.2.2.2.2.2 t ht (Vt_rm k8 v tn)).other tn
        · obtain ⟨q1, q2', q3⟩ := okS_1 o8 k8
          have g0 := u4 0 (by decide) (Or.inl rfl)
          rw [d] at g0
          refine ⟨⟨q1, q2', n5⟩, SPh.2.1, U2, by show U2 + 26 * sN s ≤ 520 * (i + 1); omega, fun t ht v => ?_⟩
          have v : Vt (rmS s (nw, sc, ni, nB (P_copy nw sc Y B))) t := v
          by_cases t0 : t = 0
          · subst t0
            exact ⟨w2, Gd_nB (Gd_copy g2), Pb_nB (Pb_copy q2) s82⟩
          · rw [sD_st t0]
            by_cases tn : t = 1 + nxS s
            · rw [tn, sD_rm0]
              exact ⟨w0, Gd_nB (Gd_copy g0.2.1), Pb_nB (Pb_copy g0.2.2) s8⟩
            · rw [sD_rm tn]
              exact u4 t ht (Vt_rm k8 v tn)
  · have c := ce_HS_restoreSnapshotR (E := E) hE k_x r_x_2 hB hG hrn
    rw [hw] at c
    refine fin_er (code := 1) (w := 1) (Q := fun h1 => h1 = h) (Or.inl rfl) rfl (we_restoreSnapshot_1 (out := (A 0)) k_x c (by decide) (by decide)) (fun h1 q => ?_)
    subst q
    have q := cr_MO_restoreSnapshotR (E := E) (h := h1) (c := hI h1 (A 8)) (G0 := hI h1 (A 7)) (F := hI h1 (A 6)) (R := []) mo v1 v2 v3 F.nd_sv hrn
    rw [wL3_self] at q
    refine ⟨mo.1, q.mono (fun y h2 p => ?_) (fun _ _ z => z)⟩
    obtain ⟨rfl, rfl⟩ := p
    exact ⟨⟨0, rfl⟩, wL_17 (w := 0) (u1_same _ _ _), rfl, back 1⟩
