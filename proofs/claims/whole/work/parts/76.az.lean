/-! ANSWERS: runScript -/
theorem JE_do {nw sc ni v a : Nat} {num : Int32} {B : Bu} (h0 : 0 < sc) (ha : v ≠ 0 → a < sc) : JE sc B (P_do nw sc ni v a num B).2 := by
  unfold P_do
  split
  · exact JE_pass h0 _ (0, B)
  · next v0 =>
    have hi := ha v0
    split
    · split
      · exact JE_r
      · exact JE_ins hi
    · split
      · split
        · exact JE_repair hi
        · exact JE_r
      · split
        · exact JE_sS hi (KS_u KS_r (by decide))
        · split
          · split
            · exact JE_r
            · exact JE_sS hi (KS_u KS_r (by decide))
          · split
            · exact JE_sS hi KS_open
            · exact JE_r
theorem JE_run {nw sc ni : Nat} {S : Sq} (hS : SqOk sc S) (h0 : 0 < sc) (s8 : sc ≤ 8) : ∀ (d i : Nat) (B : Bu), i + d = S.1 → JE sc B (P_run nw sc ni S d i B).2
  | 0, _, _, _ => JE_r
  | d + 1, i, B, hd => by
    obtain ⟨v, a, nm, h6, z1, z2, z3, hn, ha0, ha⟩ := hS i (by omega)
    rw [P_run_S z1 z2 z3 h6 (P_arg ha0 ha s8)]
    split
    · exact (JE_do h0 ha).trans (JE_run hS h0 s8 d (i + 1) _ (by omega))
    · exact JE_do h0 ha
theorem Fx.nd8 {h : Hp} {A γ : Nat → Nat} (F : Fx h A γ) : ((A 15) :: (A 16) :: (A 14) :: (A 21) :: (A 17) :: (A 18) :: (A 19) :: (A 20) :: (([] : List (Nat × (Nat → Int32))).map Prod.fst)).Nodup := by
  have g : ∀ i j, i < 23 → j < 23 → i ≠ j → A i ≠ A j := fun i j hi hj n => F.ne hi hj n
  simp only [List.map_nil, List.nodup_cons, List.mem_cons, List.not_mem_nil, or_false, not_or, not_false_eq_true, List.nodup_nil, and_true]
  refine ⟨⟨?_, ?_, ?_, ?_, ?_, ?_, ?_⟩, ⟨?_, ?_, ?_, ?_, ?_, ?_⟩, ⟨?_, ?_, ?_, ?_, ?_⟩, ⟨?_, ?_, ?_, ?_⟩, ⟨?_, ?_, ?_⟩, ⟨?_, ?_⟩, ?_⟩ <;> exact g _ _ (by decide) (by decide) (by decide)
theorem wL8_self {h : Hp} {a b c d e f g k : Nat} : wL h ((a, hI h a) :: (b, hI h b) :: (c, hI h c) :: (d, hI h d) :: (e, hI h e) :: (f, hI h f) :: (g, hI h g) :: (k, hI h k) :: []) = h := by
  have z := wL_self (h := h) (L := [a, b, c, d, e, f, g, k])
  simp only [List.map] at z
  exact z
theorem rS_self {S0 : Nat → Int32} {k : Nat} (h : S0 3 = nI k) : rS S0 k = S0 := by
  funext q
  unfold rS
  rw [u1_at]
  split
  · next c => rw [c, h]
  · rfl
set_option maxHeartbeats 1000000 in
theorem an_runScript {E : En} {h : Hp} {A γ : Nat → Nat} {s : Sv} {i : Nat} (hE : (eL E).stackTraces = false) (L : LI h A γ s i) (hi : i ≤ 512) : AnsW E m_LW_runScript m_MO_runScript fI [] h A i := by
  obtain ⟨nw, sc, ni, U, b, sp, B, d, ⟨k_x, r_x_2, r_x_3⟩, ⟨hB, hN, hD⟩, vb, hw, w0, hG, hP, hU⟩ := L.now
  have n6 := hG.1.2.1
  have s8 := hG.1.2.2.2.1
  have nd := L.1.2.2.1.nd2
  have u9 : U ≤ 266240 := by omega
  obtain ⟨CSh, NSh, CIh, MEh, SPh⟩ := id L
  obtain ⟨o8, k8, n5⟩ := SPh.1
  have F := CSh.2.2.1
  have r_x_0 := CSh.1.1.2.1
  have r_x_1 := CSh.1.1.2.2.1
  have r_x_4 := CSh.1.1.2.2.2.1
  have hI9 := CSh.1.2.2.1
  have hP9 := CSh.1.2.1
  have hS9 := CSh.1.2.2.2.1
  have k_hy := CSh.1.2.2.2.2.1.1
  obtain ⟨t, et⟩ := rF_ex CIh.2.1.1
  obtain ⟨ks, hks⟩ := nI_sur (hI h (A 17) 3)
  have z0 := MEh.2.2.2.2.2 0 (by decide) (Or.inl rfl)
  rw [d] at z0
  have Bb := CSh.2.2.2.1.1 0 b (by decide) r_x_2
  have e8 : B.1 8 = nI sc := hG.1.2.2.1
  have fo : ∀ a, a ∈ (A 15) :: (A 16) :: (A 14) :: (A 21) :: (A 17) :: (A 18) :: (A 19) :: (A 20) :: (([] : List (Nat × (Nat → Int32))).map Prod.fst) → Fo h b a := fun a ha => by
    simp only [List.map_nil, List.mem_cons, List.not_mem_nil, or_false] at ha
    rcases ha with rfl | rfl | rfl | rfl | rfl | rfl | rfl | rfl <;> exact Bb.fo F (by decide)
  obtain ⟨S, hSS⟩ : ∃ S : Sq, S = (ks, hI h (A 18), hI h (A 19), hI h (A 20)) := ⟨_, rfl⟩
  obtain ⟨Yv, hY⟩ : ∃ Yv, Yv = Y_script (hI h (A 16)) (sN s) (B.1 8) (t, (hI h (A 14) 3, hI h (A 14) 4, hI h (A 14) 5)) S := ⟨_, rfl⟩
  have heap : wL (wB h b B) (((A 15), rF (hI h (A 15)) (sN s) (t, (hI h (A 14) 3, hI h (A 14) 4, hI h (A 14) 5)).1) :: ((A 16), hI h (A 16)) :: ((A 14), rP (hI h (A 14)) (t, (hI h (A 14) 3, hI h (A 14) 4, hI h (A 14) 5)).2) :: ((A 21), hI h (A 21)) :: ((A 17), rS (hI h (A 17)) S.1) :: ((A 18), S.2.1) :: ((A 19), S.2.2.1) :: ((A 20), S.2.2.2) :: []) = h := by
    rw [hw, hSS]
    show wL h (((A 15), rF (hI h (A 15)) (sN s) t) :: ((A 16), hI h (A 16)) :: ((A 14), rP (hI h (A 14)) (hI h (A 14) 3, hI h (A 14) 4, hI h (A 14) 5)) :: ((A 21), hI h (A 21)) :: ((A 17), rS (hI h (A 17)) ks) :: ((A 18), hI h (A 18)) :: ((A 19), hI h (A 19)) :: ((A 20), hI h (A 20)) :: []) = h
    rw [et, rP_self, rS_self hks, wL8_self]
  obtain ⟨hX, hhX⟩ : ∃ hX, hX = wL h (((A 15), rF (hI h (A 15)) 0 Yv.2.1.1) :: ((A 16), hI h (A 16)) :: ((A 14), rP (hI h (A 14)) Yv.2.1.2) :: ((A 21), hI h (A 21)) :: ((A 17), rS (hI h (A 17)) Yv.2.2.1) :: ((A 18), Yv.2.2.2.1) :: ((A 19), Yv.2.2.2.2.1) :: ((A 20), Yv.2.2.2.2.2) :: []) := ⟨_, rfl⟩
  have hlX := ltL (L := [(15, rF (hI h (A 15)) 0 Yv.2.1.1), (16, hI h (A 16)), (14, rP (hI h (A 14)) Yv.2.1.2), (21, hI h (A 21)), (17, rS (hI h (A 17)) Yv.2.2.1), (18, Yv.2.2.2.1), (19, Yv.2.2.2.2.1), (20, Yv.2.2.2.2.2)]) rfl
  have CSX : CS hX A γ (txS s (sT s) 0 Yv.2.1.2.2.1 Yv.2.1.2.2.2) := by rw [hhX]; exact CSh.setA hlX
  have NSX : NS hX A (txS s (sT s) 0 Yv.2.1.2.2.1 Yv.2.1.2.2.2) := by rw [hhX]; exact NS.sh NSh ⟨rfl, rfl, rfl⟩
  have ioX : ∀ k, k < 14 → hI hX (A k) = hI h (A k) := fun k hk => by
    rw [hhX]
    refine wA_not (h := h) F (by omega) hlX (fun p hp => ?_)
    simp only [List.mem_cons, List.not_mem_nil, or_false] at hp
    rcases hp with rfl | rfl | rfl | rfl | rfl | rfl | rfl | rfl
    · exact (show 15 ≠ k by omega)
    · exact (show 16 ≠ k by omega)
    · exact (show 14 ≠ k by omega)
    · exact (show 21 ≠ k by omega)
    · exact (show 17 ≠ k by omega)
    · exact (show 18 ≠ k by omega)
    · exact (show 19 ≠ k by omega)
    · exact (show 20 ≠ k by omega)
  have i15 : hI hX (A 15) = rF (hI h (A 15)) 0 Yv.2.1.1 := by rw [hhX]; exact wA_at (h := h) F (by decide) hlX
  have i14 : hI hX (A 14) = rP (hI h (A 14)) Yv.2.1.2 := by rw [hhX]; exact wA_at (h := h) F (by decide) hlX
  have i17 : hI hX (A 17) = rS (hI h (A 17)) Yv.2.2.1 := by rw [hhX]; exact wA_at (h := h) F (by decide) hlX
  have i18 : hI hX (A 18) = Yv.2.2.2.1 := by rw [hhX]; exact wA_at (h := h) F (by decide) hlX
  have i19 : hI hX (A 19) = Yv.2.2.2.2.1 := by rw [hhX]; exact wA_at (h := h) F (by decide) hlX
  have i20 : hI hX (A 20) = Yv.2.2.2.2.2 := by rw [hhX]; exact wA_at (h := h) F (by decide) hlX
  have CIX : CI hX A (txS s (sT s) 0 Yv.2.1.2.2.1 Yv.2.1.2.2.2) := CIh.tx (ioX 12 (by decide)) (ioX 9 (by decide)) (ioX 10 (by decide)) (by rw [i15]; rfl) (fun j hj => absurd hj (Nat.not_lt_zero j)) (by rw [i14]; rfl) (by rw [i14]; rfl)
  have mod : ∀ H : Hp, ShM H A → ME H A s → _ := fun H cH mH => ce_MO_runScript (E := E) (h := H) (c := hI H (A 8)) (g := hI H (A 7)) (T := hI h (A 16)) (Ti := hI H (A 5)) (N := hI H (A 4)) (K := hI H (A 3)) (R := []) (n := sN s) (old := sO s) (kept := sK s) (nw := nw) (sc := sc) (ni := ni) (U := U) (q := (t, (hI h (A 14) 3, hI h (A 14) 4, hI h (A 14) 5))) (S0 := S) (B := B) cH.1 F.nd6 n5 mH.1.2.2.1 (fun j hj => by rw [mH.2.1 j hj, CIh.2.1.2 j hj]) mH.1.1 mH.1.2.1 o8 k8 (Or.inl hG) (by omega)
  cases y1 : Yv.1
  · have c := ce_HS_runScript (E := E) (h := h) (x := (A 22)) (n := sN s) (F0 := hI h (A 15)) (T := hI h (A 16)) (P0 := hI h (A 14)) (V := hI h (A 21)) (S0 := hI h (A 17)) (q := (t, (hI h (A 14) 3, hI h (A 14) 4, hI h (A 14) 5))) (S := S) (B := B) hE k_x r_x_0 r_x_1 r_x_2 r_x_4 hI9 hP9 hS9 F.nd8 n5 hB fo (by rw [← hY]; exact y1)
    rw [← hY, heap, hw, ← hhX] at c
    refine fin_er (code := 1) (w := 1) (Q := fun h1 => h1 = hX) (Or.inl rfl) rfl (we_runScript_1 (out := (A 0)) k_x c (by decide) (by decide)) (fun h1 q => ?_)
    subst q
    refine ⟨CSX.2.1.1.1, ?_⟩
    have ME1 : ME h1 A s := MEh.fr (fun k hk => ioX k (by omega))
    have q := mod h1 CSX.2.1 ME1
    have zz := ME1.2.2.2.2.2 0 (by decide) (Or.inl rfl)
    rw [d] at zz
    rw [← e8, ← hY, ← ME1.2.2.2.2.1, zz.z n6 s8] at q
    rw [← wL6_self (h := h1) rfl rfl rfl rfl rfl rfl] at q
    refine q.mono (fun y h2 p => ?_) (fun _ _ z => z)
    obtain ⟨z, rfl, rfl⟩ := p
    rw [y1]
    refine ⟨⟨_, rfl⟩, wL_17 (w := 0) (by rw [if_neg (by decide)]; exact u1_same _ _ _), rfl, γ, txS s (sT s) 0 Yv.2.1.2.2.1 Yv.2.1.2.2.2, CSX.six, NS.sh NSX ⟨rfl, rfl, rfl⟩, CIX.six CSX.2.2.1, ?_, SPh.tx (by omega) (by omega)⟩
    have M6 := ME1.six (s' := txS s (sT s) 0 Yv.2.1.2.2.1 Yv.2.1.2.2.2) (c' := u1 (u1 (rQ (u1 (hI h1 (A 8)) 17 0) z.2.2.2 Yv.2.1 z.1) 5 0) 17 1) (G' := hI h1 (A 7)) (N' := z.2.1) (K' := z.2.2.1) CSX.2.2.1 rfl rfl (by rw [u1_ne (by decide), u1_ne (by decide), rQ_k (by decide), u1_ne (by decide)]; exact ME1.1.1) (by rw [u1_ne (by decide), u1_ne (by decide), rQ_k (by decide), u1_ne (by decide)]; exact ME1.1.2.1) (by rw [u1_ne (by decide), u1_same]; rfl) (by rw [u1_ne (by decide), u1_ne (by decide), rQ_6]; rfl) (by rw [u1_ne (by decide), u1_ne (by decide), rQ_7]; rfl) (by rw [u1_ne (by decide), u1_ne (by decide), rQ_k (by decide), u1_ne (by decide)]) (fun j hj => absurd hj (Nat.not_lt_zero j)) (fun u hu v => ME1.2.2.2.2.2 u hu v)
    rw [ME1.2.2.2.2.1]
    exact M6
  · have y2 : (Y_script (hI h (A 16)) (sN s) (nI sc) (t, (hI h (A 14) 3, hI h (A 14) 4, hI h (A 14) 5)) S).1 = true := by rw [← e8, ← hY]; exact y1
    have sq := SqOk_script s8 y2
    have s4 := script_4 s8 y2
    rw [← e8, ← hY] at sq s4
    have s0 := hG.1.2.2.2.2.1
    have dX : sD (txS s (sT s) 0 Yv.2.1.2.2.1 Yv.2.1.2.2.2) 0 = (nw, sc, ni, B) := d
    have bX : hR hX (A 22) 2 = some b := by rw [hhX]; exact r_x_2
    have vbX : vB hX b = B := by
      obtain ⟨b', b1, b2⟩ := CSX.2.2.2.2.2 0 (by decide) (Or.inl rfl)
      have : b' = b := by
        have e : hR hX (A 22) 2 = some b' := b1
        rw [bX] at e
        exact (Option.some.inj e).symm
      rw [this, dX] at b2
      exact b2
    have use := fun (h9 : Hp) (q : QR hX A (txS s (sT s) 0 Yv.2.1.2.2.1 Yv.2.1.2.2.2) nw sc B h9) => QR_use (h9 := h9) CSX NSX CIX o8 k8 q
    have c := cs_HS_runScript (E := E) (h := h) (x := (A 22)) (n := sN s) (F0 := hI h (A 15)) (T := hI h (A 16)) (P0 := hI h (A 14)) (V := hI h (A 21)) (S0 := hI h (A 17)) (q := (t, (hI h (A 14) 3, hI h (A 14) 4, hI h (A 14) 5))) (S := S) (B := B) (nw := nw) (sc := sc) (ni := ni) (U := U) (Q := QR hX A (txS s (sT s) 0 Yv.2.1.2.2.1 Yv.2.1.2.2.2) nw sc B) k_x r_x_0 r_x_1 r_x_2 r_x_4 hI9 hP9 hS9 F.nd8 n5 hB fo (by rw [← hY]; exact y1) k_hy hG (by omega) (by rw [← hY, hw, ← hhX]; exact QR_ct CSX CIX k8 bX vbX hG) (fun h9 q => by
      rw [← hY]
      obtain ⟨γ', Y, c1, c2, c3, c4, c5, c6, c7⟩ := use h9 q
      obtain ⟨b9, vb9, -⟩ := c7 0 b (by decide) (by omega) bX
      have B9 := c1.2.2.2.1.1 0 b (by decide) b9
      have F9 := c1.2.2.1
      refine ⟨B9.1, vb9.trans vbX, c1.1.2.2.2.1, ⟨c1.1.2.1.1, c1.1.2.1.2.2.1⟩, ⟨?_, ?_, ?_, ?_⟩, ⟨B9.fo F9 (by decide), B9.fo F9 (by decide), B9.fo F9 (by decide)⟩, c5.trans (by rw [hhX]; rfl), c6.trans (by rw [hhX]; rfl)⟩
      · rw [c4 17 (by decide) (by decide), i17]; rfl
      · rw [c4 18 (by decide) (by decide), i18]
      · rw [c4 19 (by decide) (by decide), i19]
      · rw [c4 20 (by decide) (by decide), i20])
    rw [← hY, heap] at c
    obtain ⟨Rn, hRn⟩ : ∃ Rn, Rn = P_run nw sc ni Yv.2.2 Yv.2.2.1 0 B := ⟨_, rfl⟩
    rw [← hRn] at c
    have pg := Pb_run (nw := nw) (ni := ni) sq.1 Yv.2.2.1 0 U U B (Nat.zero_add _) hG hP (by omega) (by omega)
    have mny : P_money Rn.2.2.2 sc = P_money B.2.2 sc := by rw [hRn]; exact money_JE (JE_run sq.1 s0 s8 _ 0 B (Nat.zero_add _))
    rw [← hRn] at pg
    refine fin_ok (ws_runScript (out := (A 0)) (Q := fun z h9' => z = nI Rn.1 ∧ ∃ h9, QR hX A (txS s (sT s) 0 Yv.2.1.2.2.1 Yv.2.1.2.2.2) nw sc B h9 ∧ h9' = wB h9 b Rn.2) k_x (fun z h9' q => ?_) (c.mono (fun v h1 p => ?_) (fun _ _ z => z)) (by decide) (by decide)) (fun z h9' q => ?_)
    · obtain ⟨rfl, h9, q, rfl⟩ := q
      obtain ⟨γ', Y, c1, -⟩ := use h9 q
      exact c1.2.1.2.2.2
    · obtain ⟨h9, q, rfl, rfl⟩ := p
      exact ⟨_, rfl, rfl, h9, q, rfl⟩
    · obtain ⟨rfl, h9, q, rfl⟩ := q
      obtain ⟨γ', Y, c1, c2, c3, c4, c5, c6, c7⟩ := use h9 q
      have d3 : (sD (txS s (sT s) 0 Yv.2.1.2.2.1 Yv.2.1.2.2.2) 0).2.2.1 = ni := by rw [dX]
      rw [d3] at c1 c2 c3
      obtain ⟨b9, vb9, -⟩ := c7 0 b (by decide) (by omega) bX
      have CS2 : CS (wB h9 b Rn.2) A γ' (stS (rmS (txS s (sT s) 0 Yv.2.1.2.2.1 Yv.2.1.2.2.2) (nw, sc, ni, nB (P_copy nw sc Y B))) (nw, sc, ni, nB Rn.2)) := c1.setB (t := 0) (by decide) b9 (fun u hu v n => ⟨v, by rw [sD_st n]⟩) (fun _ _ => rfl)
      have wf : ∀ k, k < 23 → hI (wB h9 b Rn.2) (A k) = hI h9 (A k) := fun k hk => wB_fix c1 (t := 0) (by decide) b9 hk
      have CS3 : CS (sJ (wB h9 b Rn.2) (A 0) 0 (fI (nI Rn.1))) A γ' (stS (rmS (txS s (sT s) 0 Yv.2.1.2.2.1 Yv.2.1.2.2.2) (nw, sc, ni, nB (P_copy nw sc Y B))) (nw, sc, ni, nB Rn.2)) := CS2.sh ⟨rfl, rfl, rfl⟩ (fun _ _ _ _ _ => rfl)
      have NS3 : NS (sJ (wB h9 b Rn.2) (A 0) 0 (fI (nI Rn.1))) A (stS (rmS (txS s (sT s) 0 Yv.2.1.2.2.1 Yv.2.1.2.2.2) (nw, sc, ni, nB (P_copy nw sc Y B))) (nw, sc, ni, nB Rn.2)) := NS.sh c2 ⟨rfl, rfl, rfl⟩
      have CI3 : CI (sJ (wB h9 b Rn.2) (A 0) 0 (fI (nI Rn.1))) A (stS (rmS (txS s (sT s) 0 Yv.2.1.2.2.1 Yv.2.1.2.2.2) (nw, sc, ni, nB (P_copy nw sc Y B))) (nw, sc, ni, nB Rn.2)) := CI.fr c3 (fun k _ hk => wf k hk)
      have io : ∀ k, k < 9 → hI (sJ (wB h9 b Rn.2) (A 0) 0 (fI (nI Rn.1))) (A k) = hI h (A k) := fun k hk => (wf k (by omega)).trans ((c4 k (by omega) (by omega)).trans (ioX k (by omega)))
      have km : hK (wB h9 b Rn.2) (A 8) = 8 := CS2.2.1.1.1
      generalize sJ (wB h9 b Rn.2) (A 0) 0 (fI (nI Rn.1)) = H at *
      have ME3 : ME H A s := MEh.fr io
      have q := mod H CS3.2.1 ME3
      have zz := ME3.2.2.2.2.2 0 (by decide) (Or.inl rfl)
      rw [d] at zz
      rw [← e8, ← hY, ← hRn, ← ME3.2.2.2.2.1, zz.z n6 s8] at q
      rw [← wL6_self (h := H) rfl rfl rfl rfl rfl rfl] at q
      refine ⟨km, q.mono (fun y h2 p => ?_) (fun _ _ z => z)⟩
      obtain ⟨z, rfl, rfl⟩ := p
      rw [y1]
      have nx8 : nxS s < 8 := Nat.mod_lt _ (by decide)
      refine ⟨by rw [if_pos rfl], wL_17 (w := 0) (by rw [if_pos rfl, kp_k (by decide) (by decide), u1_ne (by decide), rQ_k (by decide), u1_same]), rfl, γ', stS (rmS (txS s (sT s) 0 Yv.2.1.2.2.1 Yv.2.1.2.2.2) (nw, sc, ni, nB (P_copy nw sc Y B))) (nw, sc, ni, nB Rn.2), CS3.six, NS.sh NS3 ⟨rfl, rfl, rfl⟩, CI3.six CS3.2.2.1, ?_, ?_⟩
      · have M6 := ME3.six (s' := stS (rmS (txS s (sT s) 0 Yv.2.1.2.2.1 Yv.2.1.2.2.2) (nw, sc, ni, nB (P_copy nw sc Y B))) (nw, sc, ni, nB Rn.2)) (c' := kpC (u1 (rQ (u1 (hI H (A 8)) 17 0) z.2.2.2 Yv.2.1 z.1) 5 0) (sO s) (sK s)) (G' := enc nw sc Rn.2 (KC (hI H (A 7)) 0 (1 + (sO s + sK s) % 8))) (N' := z.2.1) (K' := z.2.2.1) CS3.2.2.1 rfl rfl (kp_1 (by rw [u1_ne (by decide), rQ_k (by decide), u1_ne (by decide)]; exact ME3.1.1)) (kp_2 (by rw [u1_ne (by decide), rQ_k (by decide), u1_ne (by decide)]; exact ME3.1.2.1)) (by rw [kp_k (by decide) (by decide), u1_same]; rfl) (by rw [kp_k (by decide) (by decide), u1_ne (by decide), rQ_6]; rfl) (by rw [kp_k (by decide) (by decide), u1_ne (by decide), rQ_7]; rfl) (by rw [kp_k (by decide) (by decide), u1_ne (by decide), rQ_k (by decide), u1_ne (by decide)]) (fun j hj => absurd hj (Nat.not_lt_zero j)) (mir_chg (s := txS s (sT s) 0 Yv.2.1.2.2.1 Yv.2.1.2.2.2) (G := hI H (A 7)) s8 k8 zz ME3.2.2.2.2.2 (Mir.set s8 ?_) (fun q hq => ?_) (fun u hu u0 un q hq => ?_))
        · rw [ME3.2.2.2.2.1]
          exact M6
        · rw [mny]
          show (if _ then _ else _) = _
          rw [if_neg (by omega)]
          exact zz.2
        · have hn : nxS (txS s (sT s) 0 Yv.2.1.2.2.1 Yv.2.1.2.2.2) = (sO s + sK s) % 8 := rfl
          rw [hn, enc_out n6 s8 (by omega)]
          show (if _ then _ else _) = _
          rw [if_pos (by omega), show q + 140 * (1 + (sO s + sK s) % 8) - 140 * (1 + (sO s + sK s) % 8) + 140 * 0 = q by omega]
        · have un : u ≠ 1 + (sO s + sK s) % 8 := un
          rw [enc_out n6 s8 (by omega)]
          show (if _ then _ else _) = _
          rw [if_neg (by omega)]
      · obtain ⟨U2, u3, u4⟩ := SPh.2.2
        have g0 := u4 0 (by decide) (Or.inl rfl)
        rw [d] at g0
        have pg2 := Pb_run (nw := nw) (ni := ni) sq.1 Yv.2.2.1 0 U2 U2 B (Nat.zero_add _) g0.2.1 g0.2.2 (by omega) (by omega)
        rw [← hRn] at pg2
        exact SP.chg2 (s := txS s (sT s) 0 Yv.2.1.2.2.1 Yv.2.1.2.2.2) (U' := U2 + 101 * Yv.2.2.1) k8 o8 rfl SPh.2.1 d (by omega) (by omega) u4 ⟨w0, Gd_nB pg2.2, Pb_nB pg2.1 s8⟩
