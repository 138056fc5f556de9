/-! THE LAW: its setup is read -/
/-- the numbers of a setup are as the document bounds them -/
def Hb (hs gs : Nat → Nat) (rs : Nat → Nat → Nat) (nw sc : Nat) : Prop := (∀ k, k < 7 → RB.getD (2 * k) 0 ≤ nI (hs k) ∧ nI (hs k) ≤ RB.getD (2 * k + 1) 0 ∧ hs k < 100000) ∧ (1 ≤ nw ∧ nw ≤ 6) ∧ (∀ a b, a < nw → b < nw → gs a = gs b → a = b) ∧ (∀ a, a < nw → 1 ≤ gs a ∧ gs a ≤ 5000) ∧ (0 < sc ∧ sc ≤ 8) ∧ ∀ i, i < sc → ∀ k, k < 8 → RS.getD (2 * k) 0 ≤ nI (rs i k) ∧ nI (rs i k) ≤ RS.getD (2 * k + 1) 0 ∧ rs i k < 100000
/-- the bureau that such a setup gives -/
def Cb (hs gs : Nat → Nat) (rs : Nat → Nat → Nat) (nw sc : Nat) (C : Bu) : Prop := (∀ k, k < 7 → C.1 k = nI (hs k)) ∧ C.1 7 = nI nw ∧ C.1 8 = nI sc ∧ (C.1 9 = 0 ∧ C.1 10 = 0 ∧ C.1 11 = 0) ∧ (∀ j, j < nw → C.2.1 j = nI (gs j)) ∧ ∀ j, j < sc → ∃ z r, C.2.2 j = M_begin z r ∧ ∀ k, k < 8 → r k = nI (rs j k)
theorem nb_le {a b : Nat} (ha : a < 100000) (hb : b < 100000) (h : nI a ≤ nI b) : a ≤ b := (nI_leI9 (by omega) (by omega)).mp h
theorem Cb.gd {hs gs : Nat → Nat} {rs : Nat → Nat → Nat} {nw sc : Nat} {C : Bu} (h : Hb hs gs rs nw sc) (c : Cb hs gs rs nw sc C) : Gd C nw sc (hs 5) 0 := by
  obtain ⟨h1, ⟨w1, w6⟩, -, h4, ⟨s1, s8⟩, h6⟩ := h
  obtain ⟨c1, c2, c3, -, c5, c6⟩ := c
  have r5 : hs 5 ≤ 3 := nb_le (h1 5 (by decide)).2.2 (by decide) (show nI (hs 5) ≤ nI 3 from (h1 5 (by decide)).2.1)
  have r6 : hs 6 ≤ 65536 := nb_le (h1 6 (by decide)).2.2 (by decide) (show nI (hs 6) ≤ nI 65536 from (h1 6 (by decide)).2.1)
  have r0 : hs 0 ≤ 50 := nb_le (h1 0 (by decide)).2.2 (by decide) (show nI (hs 0) ≤ nI 50 from (h1 0 (by decide)).2.1)
  have r1 : hs 1 ≤ 50 := nb_le (h1 1 (by decide)).2.2 (by decide) (show nI (hs 1) ≤ nI 50 from (h1 1 (by decide)).2.1)
  refine ⟨⟨c2, w6, c3, s8, s1, c1 5 (by decide), r5, ⟨hs 6, r6, c1 6 (by decide)⟩, fun i hi => ?_⟩, ⟨?_, ?_, fun j hj => ?_⟩, fun i hi => ?_⟩
  · obtain ⟨z, r, e, -⟩ := c6 i hi
    rw [e]
    exact Or.inr rfl
  · rw [c1 0 (by decide), nI_toInt (by omega)]; omega
  · rw [c1 1 (by decide), nI_toInt (by omega)]; omega
  · have := h4 j hj
    rw [c5 j hj, nI_toInt (by omega)]; omega
  · obtain ⟨z, r, e, er⟩ := c6 i hi
    have q1 : rs i 1 ≤ 1000 := nb_le (h6 i hi 1 (by decide)).2.2 (by decide) (show nI (rs i 1) ≤ nI 1000 from (h6 i hi 1 (by decide)).2.1)
    have q2 : rs i 2 ≤ 100 := nb_le (h6 i hi 2 (by decide)).2.2 (by decide) (show nI (rs i 2) ≤ nI 100 from (h6 i hi 2 (by decide)).2.1)
    have e5 : (500 : Int32).toInt = 500 := rfl
    have e50 : (50 : Int32).toInt = 50 := rfl
    rw [e]
    refine ⟨Or.inr rfl, ?_, ?_, ?_⟩
    · show -500 ≤ (r 1 - 500).toInt ∧ (r 1 - 500).toInt ≤ 500
      have t1 : (nI (rs i 1)).toInt = rs i 1 := nI_toInt (by omega)
      rw [er 1 (by decide), i_subI (by rw [t1, e5]; omega) (by rw [t1, e5]; omega), t1, e5]
      omega
    · show -50 ≤ (r 2 - 50).toInt ∧ (r 2 - 50).toInt ≤ 50
      have t1 : (nI (rs i 2)).toInt = rs i 2 := nI_toInt (by omega)
      rw [er 2 (by decide), i_subI (by rw [t1, e50]; omega) (by rw [t1, e50]; omega), t1, e50]
      omega
    · show 0 ≤ (0 : Int32).toInt ∧ (0 : Int32).toInt ≤ ((0 : Nat) : Int)
      exact ⟨by decide, by decide⟩
theorem nB_eq {B : Bu} (h : ∀ i, 8 ≤ i → B.2.2 i = fun _ => 0) : nB B = B := by
  refine Prod.ext rfl (Prod.ext rfl (funext fun i => ?_))
  show (if i < 8 then B.2.2 i else fun _ => 0) = B.2.2 i
  split
  · rfl
  · exact (h i (by omega)).symm
theorem rP_any (f : Nat → Int32) : f = rP f (f 3, f 4, f 5) := by
  unfold rP
  dsimp only
  rw [u1_self9, u1_self9, u1_self9]
theorem wl_load {E : En} {h : Hp} {A γ : Nat → Nat} {n m nw0 sc0 ni0 U0 nw sc : Nat} {hs gs : Nat → Nat} {rs : Nat → Nat → Nat} (c : CS h A γ n) (ci : ∃ k nx, CI h A k nx) (h15 : hI h (A 15) 1 = nI m) (hm : m ≤ 500) (hR0 : Rm (hI h (A 16)) m 0 (rns (Setup hs gs rs nw sc))) (hb : Hb hs gs rs nw sc) (g0 : ∀ b, hR h (A 22) 2 = some b → Gd (vB h b) nw0 sc0 ni0 U0) : CT E m_HS_loadSetup [.ref (A 22)] h 11 156 (fun v h1 => v = some (.int (nI sc)) ∧ ∃ γ' C Y, CS h1 A γ' n ∧ (∃ k nx, CI h1 A k nx) ∧ (∃ b, hR h1 (A 22) 2 = some b ∧ vB h1 b = nB (P_copy nw sc Y C)) ∧ Fm h h1 A n ∧ Cb hs gs rs nw sc C) noX := by
  obtain ⟨b0, hb0⟩ := c.2.2.2.2.2
  obtain ⟨b, hb1⟩ := c.2.2.2.2.1
  obtain ⟨k, nx, ci⟩ := ci
  have B0 := c.2.2.2.1.1 0 b0 (by decide) hb0
  have B1 := c.2.2.2.1.1 11 b (by decide) hb1
  have F := c.2.2.1
  have ix : ∀ i, 9 ≤ i → i < 23 → Ix n i := fun i h1 h2 => c.ix h1 h2
  obtain ⟨t, ht⟩ := rF_any h15
  have hb' := hb
  obtain ⟨y1, ⟨y2, y3⟩, y4, y5, ⟨y6, y7⟩, y8⟩ := hb'
  obtain ⟨q', V', C, eY, k1, k2, k3, k4, k5, k6, k7⟩ := Y_setup_ok (T := hI h (A 16)) (n := m) (q := (t, hI h (A 14) 3, hI h (A 14) 4, hI h (A 14) 5)) (V := hI h (A 21)) (B := vB h b) y1 y2 y3 y4 y5 y6 y7 y8 hR0
  have cb : Cb hs gs rs nw sc C := ⟨k1, k2, k3, k4, k5, k7⟩
  have hG := cb.gd hb
  have C8 : nB C = C := nB_eq (fun i hi => by rw [k6 i (by omega)]; exact if_neg (by omega))
  have ne : ∀ i j, 9 ≤ i → i < 23 → 9 ≤ j → j < 23 → i ≠ j → A i ≠ A j := fun i j a1 a2 b1 b2 ab => F.ne (ix i a1 a2) (ix j b1 b2) ab
  have nd : (A 15 :: A 16 :: A 14 :: A 21 :: (([] : List (Nat × (Nat → Int32))).map Prod.fst)).Nodup := by
    have m1 := ne 15 16 (by decide) (by decide) (by decide) (by decide) (by decide)
    have m2 := ne 15 14 (by decide) (by decide) (by decide) (by decide) (by decide)
    have m3 := ne 15 21 (by decide) (by decide) (by decide) (by decide) (by decide)
    have m4 := ne 16 14 (by decide) (by decide) (by decide) (by decide) (by decide)
    have m5 := ne 16 21 (by decide) (by decide) (by decide) (by decide) (by decide)
    have m6 := ne 14 21 (by decide) (by decide) (by decide) (by decide) (by decide)
    simp [m1, m2, m3, m4, m5, m6]
  have fo : ∀ a, a ∈ A 15 :: A 16 :: A 14 :: A 21 :: (([] : List (Nat × (Nat → Int32))).map Prod.fst) → Fo h b a := fun a ha => by
    simp only [List.mem_cons, List.map_nil, List.not_mem_nil, or_false] at ha
    rcases ha with rfl | rfl | rfl | rfl
    · exact B1.fo F (ix 15 (by decide) (by decide))
    · exact B1.fo F (ix 16 (by decide) (by decide))
    · exact B1.fo F (ix 14 (by decide) (by decide))
    · exact B1.fo F (ix 21 (by decide) (by decide))
  have eh : wL (wB h b (vB h b)) ((A 15, rF (hI h (A 15)) m t) :: (A 16, hI h (A 16)) :: (A 14, rP (hI h (A 14)) (hI h (A 14) 3, hI h (A 14) 4, hI h (A 14) 5)) :: (A 21, hI h (A 21)) :: []) = h := by
    rw [wB_v, ← ht, ← rP_any]
    exact wL_self (h := h) (L := [A 15, A 16, A 14, A 21])
  have key : ∀ H : Hp, H = wL (wB h b C) ((A 15, rF (hI h (A 15)) 0 q'.1) :: (A 16, hI h (A 16)) :: (A 14, rP (hI h (A 14)) q'.2) :: (A 21, V') :: []) → CS H A γ n ∧ CI H A k nx ∧ hR H (A 22) 2 = some b0 ∧ bA H A 11 = some b ∧ vB H b = C ∧ vB H b0 = vB h b0 ∧ (∀ i, Ix n i → 23 ≤ i → hI H (A i) = hI h (A i)) ∧ H.2 = h.2 := fun H eH => by
    have o1 : ∀ q, q ≠ A 15 → q ≠ A 16 → q ≠ A 14 → q ≠ A 21 → hI H q = hI (wB h b C) q := fun q z1 z2 z3 z4 => by
      rw [eH]
      show wLf (wB h b C) _ q = _
      refine wLf_out (fun z => ?_)
      simp only [List.map_cons, List.map_nil, List.mem_cons, List.not_mem_nil, or_false] at z
      rcases z with z | z | z | z
      · exact z1 z
      · exact z2 z
      · exact z3 z
      · exact z4 z
    have o2 : ∀ u x, u < 12 → bA h A u = some x → vB H x = vB (wB h b C) x := fun u x hu hx => by
      have X := c.2.2.2.1.1 u x hu hx
      have W := vB_fix (h := wB h b C) (h2 := H) (A := A) (γ := γ) (b := x) (n := n) F X ⟨by rw [eH]; rfl, by rw [eH]; rfl, by rw [eH]; rfl⟩ (fun q hq => o1 q (hq 15 (ix 15 (by decide) (by decide))) (hq 16 (ix 16 (by decide) (by decide))) (hq 14 (ix 14 (by decide) (by decide))) (hq 21 (ix 21 (by decide) (by decide))))
      exact W
    have e2 : H.2 = h.2 := by rw [eH]; rfl
    refine ⟨c.sh ⟨by rw [eH]; rfl, by rw [eH]; rfl, by rw [eH]; rfl⟩, ?_, by rw [eH]; exact hb0, by rw [eH]; exact hb1, ?_, ?_, fun i hi h23 => ?_, e2⟩
    · unfold CI
      rw [o1 (A 12) (ne _ _ (by decide) (by decide) (by decide) (by decide) (by decide)) (ne _ _ (by decide) (by decide) (by decide) (by decide) (by decide)) (ne _ _ (by decide) (by decide) (by decide) (by decide) (by decide)) (ne _ _ (by decide) (by decide) (by decide) (by decide) (by decide)), wB_fix c (by decide) hb1 (ix 12 (by decide) (by decide))]
      exact ci
    · rw [o2 11 b (by decide) hb1, vB_wB B1.1, C8]
    · rw [o2 0 b0 (by decide) hb0]
      exact (wB_other c (by decide) hb1 (u := 0) (by decide) hb0 (by decide)).1
    · rw [o1 (A i) (F.ne hi (ix 15 (by decide) (by decide)) (by omega)) (F.ne hi (ix 16 (by decide) (by decide)) (by omega)) (F.ne hi (ix 14 (by decide) (by decide)) (by omega)) (F.ne hi (ix 21 (by decide) (by decide)) (by omega))]
      exact wB_fix c (by decide) hb1 hi
  obtain ⟨d1, d2, d3, d4, d5, d6, d7, d8⟩ := key _ rfl
  have hsp := c.2.1
  have z := cs_HS_loadSetup (E := E) (h := h) (x := A 22) (ip := A 15) (bt := A 16) (pa := A 14) (rw := A 21) (sc := A 17) (b := b) (nb := b0) (hy := A 12) (n := m) (F0 := hI h (A 15)) (T := hI h (A 16)) (P0 := hI h (A 14)) (V := hI h (A 21)) (q := (t, hI h (A 14) 3, hI h (A 14) 4, hI h (A 14) 5)) (B := vB h b) (nw := nw) (sc2 := sc) (ni := hs 5) (U := 0) (Q := QR (wL (wB h b C) ((A 15, rF (hI h (A 15)) 0 q'.1) :: (A 16, hI h (A 16)) :: (A 14, rP (hI h (A 14)) q'.2) :: (A 21, V') :: [])) A k nx nw0 sc0 (vB h b0)) hsp.1.1 hsp.1.2.1 hsp.1.2.2.1 hb0 hb1 hsp.1.2.2.2.1 hsp.2.2.1 hsp.2.1 nd hm B1.1 fo (by rw [eY]) hsp.2.2.2.2.1.1 (by rw [eY]; exact hG) (by rw [eY]; exact QR_ct d1 d2 d3 d6 (g0 b0 hb0)) (fun h9 q => by
    rw [eY]
    obtain ⟨γ9, e1, e2, e3, e4, e5, e6, e7⟩ := QR_use d1 d2 q
    obtain ⟨f1, f2, f3⟩ := e7 0 b0 (by decide) (by omega) d3
    obtain ⟨g1, g2, g3⟩ := e7 11 b (by decide) (by have := d2.2.2; omega) d4
    have X0 := e1.2.2.2.1.1 0 b0 (by decide) f1
    have X1 := e1.2.2.2.1.1 11 b (by decide) g1
    exact ⟨X0.1, X1.1, g2.trans d5, X0.dis X1 (fun z => absurd (e1.2.2.2.1.2 0 11 b0 (by decide) (by decide) f1 (by rw [z]; exact g1)) (by decide)), e5, e6⟩)
  rw [eh] at z
  refine CT.mono z (fun v h1 r => ?_) (fun _ _ x => x)
  obtain ⟨h9, q, r1, r2⟩ := r
  rw [eY] at r1 r2
  obtain ⟨γ9, e1, ⟨k', nx', e2⟩, e3, e4, e5, e6, e7⟩ := QR_use d1 d2 q
  obtain ⟨f1, f2, f3⟩ := e7 0 b0 (by decide) (by omega) d3
  have X0 := e1.2.2.2.1.1 0 b0 (by decide) f1
  subst r2
  refine ⟨by rw [r1]; exact congrArg (fun x => some (Value.int x)) k3, γ9, C, vB h9 b0, e1.sh ⟨rfl, rfl, rfl⟩, ⟨k', nx', ?_⟩, ⟨b0, f1, vB_wB X0.1⟩, fun i hi h23 => ?_, cb⟩
  · unfold CI
    rw [wB_fix e1 (by decide) f1 (ix 12 (by decide) (by decide))]
    exact e2
  · obtain ⟨g1, g2, g3⟩ := F.2 i hi
    obtain ⟨m1, m2, m3⟩ := e4 (A i) (by rw [show hK (wL (wB h b C) ((A 15, rF (hI h (A 15)) 0 q'.1) :: (A 16, hI h (A 16)) :: (A 14, rP (hI h (A 14)) q'.2) :: (A 21, V') :: [])) = hK h from rfl]; exact g1)
    exact ⟨(wB_fix e1 (by decide) f1 hi).trans ((e3 i hi (by omega)).trans (d7 i hi h23)), m2, m3, m1 (F.ne hi (ix 13 (by decide) (by decide)) (by omega))⟩
