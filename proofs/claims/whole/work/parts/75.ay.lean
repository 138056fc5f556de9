/-! ANSWERS: loadSetup -/
set_option maxHeartbeats 1000000 in
theorem an_loadSetup {E : En} {h : Hp} {A γ : Nat → Nat} {s : Sv} {i : Nat} (hE : (eL E).stackTraces = false) (L : LI h A γ s i) (hi : i ≤ 512) : AnsW E m_LW_loadSetup m_MO_loadSetup fI [] h A i := by
  obtain ⟨nw, sc, ni, U, b, sp, B, d, ⟨k_x, r_x_2, r_x_3⟩, ⟨hB, hN, hD⟩, vb, hw, w0, hG, hP, hU⟩ := L.now
  have n6 := hG.1.2.1
  have s8 := hG.1.2.2.2.1
  have nd := L.1.2.2.1.nd2
  have u9 : U ≤ 266240 := by omega
  obtain ⟨CSh, NSh, CIh, MEh, SPh⟩ := id L
  obtain ⟨o8, k8, n5⟩ := SPh.1
  have F := CSh.2.2.1
  have r_x_0 := CSh.1.1.2.1
  have r_x_1 := CSh.1.1.2.2.1
  have r_x_4 := CSh.1.1.2.2.2.1
  have hI9 := CSh.1.2.2.1
  have hP9 := CSh.1.2.1
  have k_hy := CSh.1.2.2.2.2.1.1
  obtain ⟨t, et⟩ := rF_ex CIh.2.1.1
  have z0 := MEh.2.2.2.2.2 0 (by decide) (Or.inl rfl)
  rw [d] at z0
  have Sp := CSh.2.2.2.1.1 11 sp (by decide) r_x_3
  have fo : ∀ a, a ∈ (A 15) :: (A 16) :: (A 14) :: (A 21) :: (([] : List (Nat × (Nat → Int32))).map Prod.fst) → Fo h sp a := fun a ha => by
    simp only [List.map_nil, List.mem_cons, List.not_mem_nil, or_false] at ha
    rcases ha with rfl | rfl | rfl | rfl <;> exact Sp.fo F (by decide)
  have heap : wL (wB h sp (vB h sp)) (((A 15), rF (hI h (A 15)) (sN s) t) :: ((A 16), hI h (A 16)) :: ((A 14), rP (hI h (A 14)) (hI h (A 14) 3, hI h (A 14) 4, hI h (A 14) 5)) :: ((A 21), hI h (A 21)) :: []) = h := by
    rw [wB_v, et, rP_self, wL4_self]
  obtain ⟨Yv, hY⟩ : ∃ Yv, Yv = Y_setup (hI h (A 16)) (sN s) (t, (hI h (A 14) 3, hI h (A 14) 4, hI h (A 14) 5)) (hI h (A 21)) (vB h sp) := ⟨_, rfl⟩
  -- the model, at any heap that has its cells as they were
  have mod : ∀ H : Hp, CS H A γ s → hI H (A 8) = hI h (A 8) → hI H (A 7) = hI h (A 7) → hI H (A 5) = hI h (A 5) → hI H (A 1) = hI h (A 1) → _ := fun H cH e8 e7 e5 e1 => ce_MO_loadSetup (E := E) (h := H) (c := hI H (A 8)) (G0 := hI H (A 7)) (T := hI h (A 16)) (Ti := hI H (A 5)) (N := hI H (A 4)) (K := hI H (A 3)) (R := []) (n := sN s) (old := sO s) (kept := sK s) (q := (t, (hI h (A 14) 3, hI h (A 14) 4, hI h (A 14) 5))) (V := hI h (A 21)) (B := vB h sp) cH.2.1.1 F.nd6 n5 (by rw [e8]; exact MEh.1.2.2.1) (fun j hj => by rw [e5, MEh.2.1 j hj, CIh.2.1.2 j hj]) (by rw [e8]; exact MEh.1.1) (by rw [e8]; exact MEh.1.2.1) o8 k8
  -- the class's cells afterwards
  obtain ⟨hX, hhX⟩ : ∃ hX, hX = wL (wB h sp Yv.2.2.2) (((A 15), rF (hI h (A 15)) 0 Yv.2.1.1) :: ((A 16), hI h (A 16)) :: ((A 14), rP (hI h (A 14)) Yv.2.1.2) :: ((A 21), Yv.2.2.1) :: []) := ⟨_, rfl⟩
  have hlX := ltL (L := [(15, rF (hI h (A 15)) 0 Yv.2.1.1), (16, hI h (A 16)), (14, rP (hI h (A 14)) Yv.2.1.2), (21, Yv.2.2.1)]) rfl
  have CSX0 : CS (wB h sp Yv.2.2.2) A γ s := CSh.setB (t := 11) (by decide) r_x_3 (fun u hu v n => ⟨v, rfl⟩) (fun z => absurd z (by decide))
  have CSX : CS hX A γ (txS s (sT s) 0 Yv.2.1.2.2.1 Yv.2.1.2.2.2) := by rw [hhX]; exact CSX0.setA hlX
  have NSX : NS hX A (txS s (sT s) 0 Yv.2.1.2.2.1 Yv.2.1.2.2.2) := by rw [hhX]; exact NS.sh NSh ⟨rfl, rfl, rfl⟩
  have ioX : ∀ k, k < 23 → k ≠ 15 → k ≠ 16 → k ≠ 14 → k ≠ 21 → hI hX (A k) = hI h (A k) := fun k hk n1 n2 n3 n4 => by
    rw [hhX]
    refine (wA_not (h := wB h sp Yv.2.2.2) F hk hlX (fun p hp => ?_)).trans (wB_fix CSh (t := 11) (by decide) r_x_3 hk)
    simp only [List.mem_cons, List.not_mem_nil, or_false] at hp
    rcases hp with rfl | rfl | rfl | rfl
    · exact Ne.symm n1
    · exact Ne.symm n2
    · exact Ne.symm n3
    · exact Ne.symm n4
  have i15 : hI hX (A 15) = rF (hI h (A 15)) 0 Yv.2.1.1 := by rw [hhX]; exact wA_at (h := wB h sp Yv.2.2.2) F (by decide) hlX
  have i14 : hI hX (A 14) = rP (hI h (A 14)) Yv.2.1.2 := by rw [hhX]; exact wA_at (h := wB h sp Yv.2.2.2) F (by decide) hlX
  have CIX : CI hX A (txS s (sT s) 0 Yv.2.1.2.2.1 Yv.2.1.2.2.2) := CIh.tx (ioX 12 (by decide) (by decide) (by decide) (by decide) (by decide)) (ioX 9 (by decide) (by decide) (by decide) (by decide) (by decide)) (ioX 10 (by decide) (by decide) (by decide) (by decide) (by decide)) (by rw [i15]; rfl) (fun j hj => absurd hj (Nat.not_lt_zero j)) (by rw [i14]; rfl) (by rw [i14]; rfl)
  have G11 : ∀ G0 z2 : Nat → Int32, (∀ j, 140 ≤ j → z2 j = KC G0 0 11 j) → (∀ q, q < 140 → z2 (q + 140 * 11) = G0 q) ∧ ∀ u, 1 ≤ u → u ≤ 10 → ∀ q, q < 140 → z2 (q + 140 * u) = G0 (q + 140 * u) := fun G0 z2 hz => by
    refine ⟨fun q hq => ?_, fun u h1 h2 q hq => ?_⟩
    · rw [hz _ (by omega)]
      unfold KC
      rw [if_pos (by omega), show q + 140 * 11 - 140 * 11 + 140 * 0 = q by omega]
    · rw [hz _ (by omega)]
      unfold KC
      rw [if_neg (by omega)]
  cases y1 : Yv.1
  · -- bad text
    have c := ce_HS_loadSetup (E := E) (h := h) (x := (A 22)) (n := sN s) (F0 := hI h (A 15)) (T := hI h (A 16)) (P0 := hI h (A 14)) (V := hI h (A 21)) (q := (t, (hI h (A 14) 3, hI h (A 14) 4, hI h (A 14) 5))) (B := vB h sp) hE k_x r_x_0 r_x_1 r_x_2 r_x_3 r_x_4 hI9 hP9 F.nd4 n5 hN fo (by rw [← hY]; exact y1)
    rw [← hY, ← hhX] at c
    have c : CT E m_HS_loadSetup [.ref (A 22)] h 1 6 (fun _ _ => False) (fun C h' => C = "java/lang/IllegalArgumentException" ∧ h' = hX) := by
      have e : wL (wB h sp (vB h sp)) (((A 15), rF (hI h (A 15)) (sN s) (t, (hI h (A 14) 3, hI h (A 14) 4, hI h (A 14) 5)).1) :: ((A 16), hI h (A 16)) :: ((A 14), rP (hI h (A 14)) (t, (hI h (A 14) 3, hI h (A 14) 4, hI h (A 14) 5)).2) :: ((A 21), hI h (A 21)) :: []) = h := heap
      rw [e] at c
      exact c
    refine fin_er (code := 1) (w := 1) (Q := fun h1 => h1 = hX) (Or.inl rfl) rfl (we_loadSetup_1 (out := (A 0)) k_x c (by decide) (by decide)) (fun h1 q => ?_)
    subst q
    refine ⟨CSX.2.1.1.1, ?_⟩
    have q := mod h1 CSX (ioX 8 (by decide) (by decide) (by decide) (by decide) (by decide)) (ioX 7 (by decide) (by decide) (by decide) (by decide) (by decide)) (ioX 5 (by decide) (by decide) (by decide) (by decide) (by decide)) (ioX 1 (by decide) (by decide) (by decide) (by decide) (by decide))
    have ME1 : ME h1 A s := MEh.fr (fun k hk => ioX k (by omega) (by omega) (by omega) (by omega) (by omega))
    rw [← hY, ← ME1.2.2.2.2.1] at q
    rw [← wL6_self (h := h1) rfl rfl rfl rfl rfl rfl] at q
    refine q.mono (fun y h2 p => ?_) (fun _ _ z => z)
    obtain ⟨z, ⟨p1, -⟩, rfl, rfl⟩ := p
    rw [y1]
    obtain ⟨g1, g2⟩ := G11 _ _ p1
    have e7 := ioX 7 (by decide) (by decide) (by decide) (by decide) (by decide)
    refine ⟨⟨_, rfl⟩, wL_17 (w := 0) (by rw [if_neg (by decide)]; exact u1_same _ _ _), rfl, γ, txS s (sT s) 0 Yv.2.1.2.2.1 Yv.2.1.2.2.2, CSX.six, NS.sh NSX ⟨rfl, rfl, rfl⟩, CIX.six CSX.2.2.1, ?_, SPh.tx (by omega) (by omega)⟩
    have M6 := ME1.six (s' := txS s (sT s) 0 Yv.2.1.2.2.1 Yv.2.1.2.2.2) (c' := u1 (u1 (rQ (u1 (hI h1 (A 8)) 17 0) 0 Yv.2.1 z.1) 5 0) 17 1) (G' := KC z.2.2 11 0) (N' := z.2.1) (K' := hI h1 (A 3)) CSX.2.2.1 rfl rfl (by rw [u1_ne (by decide), u1_ne (by decide), rQ_k (by decide), u1_ne (by decide)]; exact ME1.1.1) (by rw [u1_ne (by decide), u1_ne (by decide), rQ_k (by decide), u1_ne (by decide)]; exact ME1.1.2.1) (by rw [u1_ne (by decide), u1_same]; rfl) (by rw [u1_ne (by decide), u1_ne (by decide), rQ_6]; rfl) (by rw [u1_ne (by decide), u1_ne (by decide), rQ_7]; rfl) (by rw [u1_ne (by decide), u1_ne (by decide), rQ_k (by decide), u1_ne (by decide)]) (fun j hj => absurd hj (Nat.not_lt_zero j)) (fun u hu v => by
      have mu := ME1.2.2.2.2.2 u hu v
      by_cases u0 : u = 0
      · subst u0
        refine mu.cong (fun q hq => ?_)
        show (if _ then _ else _) = _
        rw [if_pos (by omega), show q + 140 * 0 - 140 * 0 + 140 * 11 = q + 140 * 11 by omega, g1 q hq]
        rfl
      · refine mu.cong (fun q hq => ?_)
        show (if _ then _ else _) = _
        rw [if_neg (by omega)]
        exact g2 u (by omega) hu q hq)
    rw [ME1.2.2.2.2.1]
    exact M6
  · -- a good setup
    obtain ⟨nw2, sc2, ni2, w2, g2, q2⟩ : ∃ nw2 sc2 ni2, 0 < nw2 ∧ Gd Yv.2.2.2 nw2 sc2 ni2 0 ∧ Pb 0 Yv.2.2.2 sc2 := by
      rw [hY] at y1 ⊢
      exact Y_setup_good y1
    have s82 : sc2 ≤ 8 := g2.1.2.2.2.1
    have n62 : nw2 ≤ 6 := g2.1.2.1
    have hi8 : nB Yv.2.2.2 = Yv.2.2.2 := by
      refine nB_hi ?_
      rw [hY] at y1 ⊢
      exact Hi8_setup Hi8_v y1
    have dX : sD (txS s (sT s) 0 Yv.2.1.2.2.1 Yv.2.1.2.2.2) 0 = (nw, sc, ni, B) := d
    have bX : hR hX (A 22) 2 = some b := by rw [hhX]; exact r_x_2
    have vbX : vB hX b = B := by
      obtain ⟨b', b1, b2⟩ := CSX.2.2.2.2.2 0 (by decide) (Or.inl rfl)
      have : b' = b := by
        have e : hR hX (A 22) 2 = some b' := b1
        rw [bX] at e
        exact (Option.some.inj e).symm
      rw [this, dX] at b2
      exact b2
    have spX : bA hX A 11 = some sp := by show hR hX (A 22) 3 = some sp; rw [hhX]; exact r_x_3
    have vspX : vB hX sp = Yv.2.2.2 := by
      have B9 := CSX0.2.2.2.1.1 11 sp (by decide) r_x_3
      rw [hhX]
      exact (vB_fix (h := wB h sp Yv.2.2.2) F B9 (h2 := wA (wB h sp Yv.2.2.2) A [(15, rF (hI h (A 15)) 0 Yv.2.1.1), (16, hI h (A 16)), (14, rP (hI h (A 14)) Yv.2.1.2), (21, Yv.2.2.1)]) ⟨rfl, rfl, rfl⟩ (fun q hq => wA_out hlX hq)).trans ((vB_wB Sp.1).trans hi8)
    have use := fun (h9 : Hp) (q : QR hX A (txS s (sT s) 0 Yv.2.1.2.2.1 Yv.2.1.2.2.2) nw sc B h9) => QR_use (h9 := h9) CSX NSX CIX o8 k8 q
    have c := cs_HS_loadSetup (E := E) (h := h) (x := (A 22)) (n := sN s) (F0 := hI h (A 15)) (T := hI h (A 16)) (P0 := hI h (A 14)) (V := hI h (A 21)) (q := (t, (hI h (A 14) 3, hI h (A 14) 4, hI h (A 14) 5))) (B := vB h sp) (nw := nw2) (sc2 := sc2) (ni := ni2) (U := 0) (Q := QR hX A (txS s (sT s) 0 Yv.2.1.2.2.1 Yv.2.1.2.2.2) nw sc B) k_x r_x_0 r_x_1 r_x_2 r_x_3 r_x_4 hI9 hP9 F.nd4 n5 hN fo (by rw [← hY]; exact y1) k_hy (by rw [← hY]; exact g2) (by rw [← hY, ← hhX]; exact QR_ct CSX CIX k8 bX vbX hG) (fun h9 q => by
      rw [← hY]
      obtain ⟨γ', Y, c1, c2, c3, c4, c5, c6, c7⟩ := use h9 q
      obtain ⟨b9, vb9, -⟩ := c7 0 b (by decide) (by omega) bX
      have n8 : nxS (txS s (sT s) 0 Yv.2.1.2.2.1 Yv.2.1.2.2.2) < 8 := Nat.mod_lt _ (by decide)
      obtain ⟨s9, vs9, -⟩ := c7 11 sp (by decide) (by omega) spX
      have Bb := c1.2.2.2.1.1 0 b (by decide) b9
      have Sb := c1.2.2.2.1.1 11 sp (by decide) s9
      refine ⟨Bb.1, Sb.1, vs9.trans vspX, Bb.dis Sb (fun z => absurd (c1.2.2.2.1.2 0 11 b (by decide) (by decide) b9 (by rw [z]; exact s9)) (by decide)), c5.trans (by rw [hhX]; rfl), c6.trans (by rw [hhX]; rfl)⟩)
    rw [← hY] at c
    have e : wL (wB h sp (vB h sp)) (((A 15), rF (hI h (A 15)) (sN s) (t, (hI h (A 14) 3, hI h (A 14) 4, hI h (A 14) 5)).1) :: ((A 16), hI h (A 16)) :: ((A 14), rP (hI h (A 14)) (t, (hI h (A 14) 3, hI h (A 14) 4, hI h (A 14) 5)).2) :: ((A 21), hI h (A 21)) :: []) = h := heap
    rw [e] at c
    refine fin_ok (ws_loadSetup (out := (A 0)) (Q := fun z h9' => z = Yv.2.2.2.1 8 ∧ ∃ h9, QR hX A (txS s (sT s) 0 Yv.2.1.2.2.1 Yv.2.1.2.2.2) nw sc B h9 ∧ h9' = wB h9 b (P_copy nw2 sc2 B Yv.2.2.2)) k_x (fun z h9' q => ?_) (c.mono (fun v h1 p => ?_) (fun _ _ z => z)) (by decide) (by decide)) (fun z h9' q => ?_)
    · obtain ⟨rfl, h9, q, rfl⟩ := q
      obtain ⟨γ', Y, c1, -⟩ := use h9 q
      exact c1.2.1.2.2.2
    · obtain ⟨h9, q, rfl, rfl⟩ := p
      obtain ⟨γ', Y, c1, c2, c3, c4, c5, c6, c7⟩ := use h9 q
      obtain ⟨b9, vb9, -⟩ := c7 0 b (by decide) (by omega) bX
      exact ⟨_, rfl, rfl, h9, q, by rw [vb9, vbX]⟩
    · obtain ⟨rfl, h9, q, rfl⟩ := q
      obtain ⟨γ', Y, c1, c2, c3, c4, c5, c6, c7⟩ := use h9 q
      have d3 : (sD (txS s (sT s) 0 Yv.2.1.2.2.1 Yv.2.1.2.2.2) 0).2.2.1 = ni := by rw [dX]
      rw [d3] at c1 c2 c3
      obtain ⟨b9, vb9, -⟩ := c7 0 b (by decide) (by omega) bX
      have CS2 : CS (wB h9 b (P_copy nw2 sc2 B Yv.2.2.2)) A γ' (stS (rmS (txS s (sT s) 0 Yv.2.1.2.2.1 Yv.2.1.2.2.2) (nw, sc, ni, nB (P_copy nw sc Y B))) (nw2, sc2, ni2, nB (P_copy nw2 sc2 B Yv.2.2.2))) := c1.setB (t := 0) (by decide) b9 (fun u hu v n => ⟨v, by rw [sD_st n]⟩) (fun _ _ => rfl)
      have wf : ∀ k, k < 23 → hI (wB h9 b (P_copy nw2 sc2 B Yv.2.2.2)) (A k) = hI h9 (A k) := fun k hk => wB_fix c1 (t := 0) (by decide) b9 hk
      have CS3 : CS (sJ (wB h9 b (P_copy nw2 sc2 B Yv.2.2.2)) (A 0) 0 (fI (Yv.2.2.2.1 8))) A γ' (stS (rmS (txS s (sT s) 0 Yv.2.1.2.2.1 Yv.2.1.2.2.2) (nw, sc, ni, nB (P_copy nw sc Y B))) (nw2, sc2, ni2, nB (P_copy nw2 sc2 B Yv.2.2.2))) := CS2.sh ⟨rfl, rfl, rfl⟩ (fun _ _ _ _ _ => rfl)
      have NS3 : NS (sJ (wB h9 b (P_copy nw2 sc2 B Yv.2.2.2)) (A 0) 0 (fI (Yv.2.2.2.1 8))) A (stS (rmS (txS s (sT s) 0 Yv.2.1.2.2.1 Yv.2.1.2.2.2) (nw, sc, ni, nB (P_copy nw sc Y B))) (nw2, sc2, ni2, nB (P_copy nw2 sc2 B Yv.2.2.2))) := NS.sh c2 ⟨rfl, rfl, rfl⟩
      have CI3 : CI (sJ (wB h9 b (P_copy nw2 sc2 B Yv.2.2.2)) (A 0) 0 (fI (Yv.2.2.2.1 8))) A (stS (rmS (txS s (sT s) 0 Yv.2.1.2.2.1 Yv.2.1.2.2.2) (nw, sc, ni, nB (P_copy nw sc Y B))) (nw2, sc2, ni2, nB (P_copy nw2 sc2 B Yv.2.2.2))) := CI.fr c3 (fun k _ hk => wf k hk)
      have io : ∀ k, k < 9 → hI (sJ (wB h9 b (P_copy nw2 sc2 B Yv.2.2.2)) (A 0) 0 (fI (Yv.2.2.2.1 8))) (A k) = hI h (A k) := fun k hk => (wf k (by omega)).trans ((c4 k (by omega) (by omega)).trans (ioX k (by omega) (by omega) (by omega) (by omega) (by omega)))
      have km : hK (wB h9 b (P_copy nw2 sc2 B Yv.2.2.2)) (A 8) = 8 := CS2.2.1.1.1
      generalize sJ (wB h9 b (P_copy nw2 sc2 B Yv.2.2.2)) (A 0) 0 (fI (Yv.2.2.2.1 8)) = H at *
      have ME3 : ME H A s := MEh.fr io
      have q := ce_MO_loadSetup (E := E) (h := H) (c := hI H (A 8)) (G0 := hI H (A 7)) (T := hI h (A 16)) (Ti := hI H (A 5)) (N := hI H (A 4)) (K := hI H (A 3)) (R := []) (n := sN s) (old := sO s) (kept := sK s) (q := (t, (hI h (A 14) 3, hI h (A 14) 4, hI h (A 14) 5))) (V := hI h (A 21)) (B := vB h sp) CS3.2.1.1 F.nd6 n5 ME3.1.2.2.1 (fun j hj => by rw [ME3.2.1 j hj, CIh.2.1.2 j hj]) ME3.1.1 ME3.1.2.1 o8 k8
      rw [← hY, ← ME3.2.2.2.2.1] at q
      rw [← wL6_self (h := H) rfl rfl rfl rfl rfl rfl] at q
      refine ⟨km, q.mono (fun y h2 p => ?_) (fun _ _ z => z)⟩
      obtain ⟨z, ⟨p1, p2⟩, rfl, rfl⟩ := p
      obtain ⟨nw3, sc3, g3, a1, a2, a3, a4, a5, a6, a7⟩ := p2 y1
      have en : nw3 = nw2 := nI_inj (by omega) (by omega) (a1.symm.trans g2.1.1)
      have es : sc3 = sc2 := nI_inj (by omega) (by omega) (a3.symm.trans g2.1.2.2.1)
      subst en
      subst es
      obtain ⟨g1, g2'⟩ := G11 _ _ p1
      have z8 : z.2.2 8 = Yv.2.2.2.1 8 := by rw [a5]; exact enc_c (by decide)
      rw [y1]
      have z0' := ME3.2.2.2.2.2 0 (by decide) (Or.inl rfl)
      rw [d] at z0'
      have nx8 : nxS s < 8 := Nat.mod_lt _ (by decide)
      refine ⟨by rw [if_pos rfl, z8], wL_17 (w := 0) (by rw [if_pos rfl, kp_k (by decide) (by decide), u1_ne (by decide), rQ_k (by decide), u1_same]), rfl, γ', stS (rmS (txS s (sT s) 0 Yv.2.1.2.2.1 Yv.2.1.2.2.2) (nw, sc, ni, nB (P_copy nw sc Y B))) (nw3, sc3, ni2, nB (P_copy nw3 sc3 B Yv.2.2.2)), CS3.six, NS.sh NS3 ⟨rfl, rfl, rfl⟩, CI3.six CS3.2.2.1, ?_, ?_⟩
      · have M6 := ME3.six (s' := stS (rmS (txS s (sT s) 0 Yv.2.1.2.2.1 Yv.2.1.2.2.2) (nw, sc, ni, nB (P_copy nw sc Y B))) (nw3, sc3, ni2, nB (P_copy nw3 sc3 B Yv.2.2.2))) (c' := kpC (u1 (rQ (u1 (hI H (A 8)) 17 0) 0 Yv.2.1 z.1) 5 0) (sO s) (sK s)) (G' := KC z.2.2 11 (1 + (sO s + sK s) % 8)) (N' := z.2.1) (K' := hI H (A 3)) CS3.2.2.1 rfl rfl (kp_1 (by rw [u1_ne (by decide), rQ_k (by decide), u1_ne (by decide)]; exact ME3.1.1)) (kp_2 (by rw [u1_ne (by decide), rQ_k (by decide), u1_ne (by decide)]; exact ME3.1.2.1)) (by rw [kp_k (by decide) (by decide), u1_same]; rfl) (by rw [kp_k (by decide) (by decide), u1_ne (by decide), rQ_6]; rfl) (by rw [kp_k (by decide) (by decide), u1_ne (by decide), rQ_7]; rfl) (by rw [kp_k (by decide) (by decide), u1_ne (by decide), rQ_k (by decide), u1_ne (by decide)]) (fun j hj => absurd hj (Nat.not_lt_zero j)) (mir_chg (s := txS s (sT s) 0 Yv.2.1.2.2.1 Yv.2.1.2.2.2) (G := hI H (A 7)) s8 k8 z0' ME3.2.2.2.2.2 ?_ (fun q hq => ?_) (fun u hu u0 un q hq => ?_))
        · rw [ME3.2.2.2.2.1]
          exact M6
        · -- block 0: the new one
          have m0 : Mir (enc nw3 sc3 Yv.2.2.2 g3) 0 (nw3, sc3, ni2, nB (P_copy nw3 sc3 B Yv.2.2.2)) := by
            refine ⟨fun q hq => ?_, ?_⟩
            · show enc nw3 sc3 (nB (P_copy nw3 sc3 B Yv.2.2.2)) (fun j => enc nw3 sc3 Yv.2.2.2 g3 (j + 140 * 0)) q = enc nw3 sc3 Yv.2.2.2 g3 (q + 140 * 0)
              rw [enc_nB s82, enc_copy]
              exact enc_idem rfl
            · show enc nw3 sc3 Yv.2.2.2 g3 12 = P_money (nB (P_copy nw3 sc3 B Yv.2.2.2)).2.2 sc3
              rw [enc_12, a6, money_nB s82, money_copy]
          rw [← a5] at m0
          refine m0.cong (fun q hq => ?_)
          show (if _ then _ else _) = _
          rw [if_neg (by omega)]
        · show (if _ then _ else _) = _
          have hn : nxS (txS s (sT s) 0 Yv.2.1.2.2.1 Yv.2.1.2.2.2) = (sO s + sK s) % 8 := rfl
          rw [hn, if_pos (by omega), show q + 140 * (1 + (sO s + sK s) % 8) - 140 * (1 + (sO s + sK s) % 8) + 140 * 11 = q + 140 * 11 by omega]
          exact g1 q hq
        · have un : u ≠ 1 + (sO s + sK s) % 8 := un
          show (if _ then _ else _) = _
          rw [if_neg (by omega)]
          exact g2' u (by omega) hu q hq
      · obtain ⟨U2, u3, u4⟩ := SPh.2.2
        exact SP.chg2 (s := txS s (sT s) 0 Yv.2.1.2.2.1 Yv.2.1.2.2.2) k8 o8 rfl SPh.2.1 d (Nat.le_refl U2) (by omega) u4 ⟨w2, Gd_nB ((Gd_copy g2).mono (Nat.zero_le U2)), Pb_nB ((Pb_copy q2).mono (Nat.zero_le U2)) s82⟩
