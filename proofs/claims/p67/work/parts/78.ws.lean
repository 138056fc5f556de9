/-! THE CLASS AND THE LAW'S OWN STATE IN ONE HEAP -/
def LV (h : Hp) (lb nw sc : Nat) (L : Bu) : Prop := LbOk h lb nw sc ∧ hI h (rA h lb 0) = hasF L.1 ∧ hI h (rA h lb 1) = L.2.1 ∧ ∀ i, i < sc → hI h (tw h lb i) = L.2.2 i
def AL (h : Hp) (A : Nat → Nat) (sc : Nat) : Prop := A 24 = rA h (A 23) 0 ∧ A 25 = rA h (A 23) 1 ∧ A 26 = rA h (A 23) 2 ∧ ∀ i, i < sc → A (27 + i) = tw h (A 23) i
def WS (h : Hp) (A γ : Nat → Nat) (n nw sc : Nat) (L B : Bu) : Prop := 27 + sc ≤ n ∧ CS h A γ n ∧ (∃ k nx, CI h A k nx) ∧ (∃ b, hR h (A 22) 2 = some b ∧ vB h b = B) ∧ LV h (A 23) nw sc L ∧ AL h A sc
theorem LV.eq {h : Hp} {lb nw sc : Nat} {L : Bu} (v : LV h lb nw sc L) : wT h lb sc L = h := by
  obtain ⟨v0, v1, v2, v3⟩ := v
  refine Prod.ext (funext fun q => ?_) rfl
  show wTf h lb sc L q = hI h q
  unfold wTf
  by_cases h1 : q = rA h lb 0
  · rw [if_pos h1, h1, v1]
  · rw [if_neg h1]
    by_cases h2 : q = rA h lb 1
    · rw [if_pos h2, h2, v2]
    · rw [if_neg h2]
      cases e : twAt h lb q sc with
      | none => rfl
      | some i =>
        obtain ⟨e1, e2⟩ := twAt_some sc e
        show L.2.2 i = hI h q
        rw [e2, v3 i e1]
theorem LV.of {h : Hp} {lb nw sc : Nat} {L : Bu} (v : LbOk h lb nw sc) : LV (wT h lb sc L) lb nw sc L := ⟨v, hI_wT_h, hI_wT_w v, fun i hi => hI_wT_t v hi⟩
section
variable {h h1 h9 : Hp} {A γ γ' : Nat → Nat} {n nw sc : Nat} {L L' B B' F : Bu}
theorem WS.ok (W : WS h A γ n nw sc L B) : LbOk h (A 23) nw sc := W.2.2.2.2.1.1
theorem WS.eq (W : WS h A γ n nw sc L B) : wT h (A 23) sc L = h := W.2.2.2.2.1.eq
theorem WS.kx (W : WS h A γ n nw sc L B) : hK h (A 22) = 1 := W.2.1.2.1.1.1
theorem WS.bu (W : WS h A γ n nw sc L B) : ∃ b, hR h (A 22) 2 = some b ∧ BuOk h b ∧ vB h b = B ∧ wB h b B = h := by
  obtain ⟨b, b1, b2⟩ := W.2.2.2.1
  exact ⟨b, b1, (W.2.1.2.2.2.1.1 0 b (by decide) b1).1, b2, by rw [← b2]; exact wB_v⟩
theorem WS.ix (W : WS h A γ n nw sc L B) {i : Nat} (h1 : 9 ≤ i) (h2 : i < 27 + sc) : Ix n i := ⟨h1, Nat.lt_of_lt_of_le h2 W.1⟩
theorem WS.law (W : WS h A γ n nw sc L B) : WS (wT h (A 23) sc L') A γ n nw sc L' B := by
  obtain ⟨w0, c, ⟨k, nx, ci⟩, ⟨b, b1, b2⟩, v, al⟩ := id W
  have F := c.2.2.1
  have HL := v.1
  have out : ∀ q, (∀ i, Ix n i → q ≠ A i) → hI (wT h (A 23) sc L') q = hI h q := fun q hq => hI_wT_o (by rw [← al.1]; exact hq 24 (W.ix (by decide) (by omega))) (by rw [← al.2.1]; exact hq 25 (W.ix (by decide) (by omega))) (fun i hi => by rw [← al.2.2.2 i hi]; exact hq (27 + i) (W.ix (by omega) (by omega)))
  have a12 : hI (wT h (A 23) sc L') (A 12) = hI h (A 12) := by
    have i12 : Ix n 12 := W.ix (by decide) (by omega)
    refine hI_wT_o ?_ ?_ (fun i hi => ?_)
    · rw [← al.1]; exact F.ne i12 (W.ix (by decide) (by omega)) (by decide)
    · rw [← al.2.1]; exact F.ne i12 (W.ix (by decide) (by omega)) (by decide)
    · rw [← al.2.2.2 i hi]; exact F.ne i12 (W.ix (by omega) (by omega)) (by omega)
  refine ⟨w0, c.sh ⟨rfl, rfl, rfl⟩, ⟨k, nx, ?_⟩, ⟨b, b1, (vB_fix (h2 := wT h (A 23) sc L') F (c.2.2.2.1.1 0 b (by decide) b1) ⟨rfl, rfl, rfl⟩ out).trans b2⟩, LV.of HL, al⟩
  unfold CI
  rw [a12]
  exact ci
/-- what stays of the cells from number 23 on -/
def Fm (h h1 : Hp) (A : Nat → Nat) (n : Nat) : Prop := ∀ i, Ix n i → 23 ≤ i → hI h1 (A i) = hI h (A i) ∧ hK h1 (A i) = hK h (A i) ∧ hL h1 (A i) = hL h (A i) ∧ hR h1 (A i) = hR h (A i)
theorem Fm.r : Fm h h A n := fun _ _ _ => ⟨rfl, rfl, rfl, rfl⟩
theorem Fm.t (a : Fm h h1 A n) (b : Fm h1 h9 A n) : Fm h h9 A n := fun i hi h2 => by
  obtain ⟨a1, a2, a3, a4⟩ := a i hi h2
  obtain ⟨b1, b2, b3, b4⟩ := b i hi h2
  exact ⟨b1.trans a1, b2.trans a2, b3.trans a3, b4.trans a4⟩
theorem Fm.less {m : Nat} (a : Fm h h1 A n) (hm : m ≤ n) : Fm h h1 A m := fun i hi h2 => a i ⟨hi.1, Nat.lt_of_lt_of_le hi.2 hm⟩ h2
theorem LbOk.fm (W : WS h A γ n nw sc L B) (f : Fm h h1 A n) : LV h1 (A 23) nw sc L ∧ AL h1 A sc := by
  obtain ⟨w0, c, -, -, ⟨⟨l1, ⟨l2, l3, l4⟩, ⟨l5, l6⟩, ⟨l7, l8⟩, ⟨l9, l10⟩, l11, l12, l13, l14⟩, v1, v2, v3⟩, a1, a2, a3, a4⟩ := id W
  obtain ⟨p1, p2, p3, p4⟩ := f 23 (W.ix (by decide) (by omega)) (by decide)
  have e0 : rA h1 (A 23) 0 = A 24 := by rw [a1]; unfold rA; rw [p4]
  have e1 : rA h1 (A 23) 1 = A 25 := by rw [a2]; unfold rA; rw [p4]
  have e2 : rA h1 (A 23) 2 = A 26 := by rw [a3]; unfold rA; rw [p4]
  obtain ⟨q1, q2, q3, q4⟩ := f 24 (W.ix (by decide) (by omega)) (by decide)
  obtain ⟨r1, r2, r3, r4⟩ := f 25 (W.ix (by decide) (by omega)) (by decide)
  obtain ⟨s1, s2, s3, s4⟩ := f 26 (W.ix (by decide) (by omega)) (by decide)
  have et : ∀ i, tw h1 (A 23) i = tw h (A 23) i := fun i => by
    unfold tw
    rw [e2, ← a3]
    unfold rA
    rw [s4]
  have ft : ∀ i, i < sc → _ := fun i hi => f (27 + i) (W.ix (by omega) (by omega)) (by omega)
  rw [← a1] at l5 l6 v1 l11
  rw [← a2] at l7 l8 v2 l11
  rw [← a3] at l9 l10
  refine ⟨⟨⟨p2.trans l1, ⟨by unfold rOk; rw [p4]; exact l2, by unfold rOk; rw [p4]; exact l3, by unfold rOk; rw [p4]; exact l4⟩, ⟨by rw [e0]; exact q2.trans l5, by rw [e0]; exact q3.trans l6⟩, ⟨by rw [e1]; exact r2.trans l7, by rw [e1]; exact r3.trans l8⟩, ⟨by rw [e2]; exact s2.trans l9, by rw [e2]; exact s3.trans l10⟩, by rw [e0, e1]; exact l11, fun i hi => ⟨?_, ?_⟩, fun i j hi hj e => l13 i j hi hj (by rw [et, et] at e; exact e), l14⟩, by rw [e0]; exact q1.trans v1, by rw [e1]; exact r1.trans v2, fun i hi => ?_⟩, e0.symm, e1.symm, e2.symm, fun i hi => ?_⟩
  · have z := (l12 i hi).1
    rw [e2]
    rw [← a3] at z
    unfold rOk
    rw [s4]
    exact z
  · rw [et, ← a4 i hi]
    have z := (l12 i hi).2
    rw [← a4 i hi] at z
    exact (ft i hi).2.1.trans z
  · rw [et, ← a4 i hi]
    have z := v3 i hi
    rw [← a4 i hi] at z
    exact (ft i hi).1.trans z
  · rw [et]; exact a4 i hi
theorem WS.fm (W : WS h A γ n nw sc L B) (f : Fm h h1 A n) (c : CS h1 A γ' n) (ci : ∃ k nx, CI h1 A k nx) (hb : ∃ b, hR h1 (A 22) 2 = some b ∧ vB h1 b = B') : WS h1 A γ' n nw sc L B' := ⟨W.1, c, ci, hb, LbOk.fm W f⟩
/-- the trial bureau's numbers change -/
theorem WS.try (W : WS h A γ n nw sc L B) {b : Nat} (hb : bA h A 11 = some b) : WS (wB h b F) A γ n nw sc L B ∧ Fm h (wB h b F) A n := by
  obtain ⟨w0, c, ⟨k, nx, ci⟩, ⟨b0, b1, b2⟩, v⟩ := id W
  have f : Fm h (wB h b F) A n := fun i hi h2 => ⟨wB_fix c (by decide) hb hi, rfl, rfl, rfl⟩
  refine ⟨W.fm f (c.sh ⟨rfl, rfl, rfl⟩) ⟨k, nx, ?_⟩ ⟨b0, b1, (wB_other c (by decide) hb (u := 0) (by decide) b1 (by decide)).1.trans b2⟩, f⟩
  unfold CI
  rw [wB_fix c (by decide) hb (c.ix (by decide) (by decide))]
  exact ci
theorem WS.tr (W : WS h A γ n nw sc L B) : ∃ nb b, hR h (A 22) 2 = some nb ∧ hR h (A 22) 3 = some b ∧ BuOk h nb ∧ BuOk h b ∧ Dis h b nb ∧ vB h nb = B ∧ bA h A 11 = some b := by
  obtain ⟨w0, c, -, ⟨b0, b1, b2⟩, -⟩ := id W
  obtain ⟨b, hb⟩ := c.2.2.2.2.1
  exact ⟨b0, b, b1, hb, (c.2.2.2.1.1 0 b0 (by decide) b1).1, (c.2.2.2.1.1 11 b (by decide) hb).1, (wB_other (F := B) c (by decide) hb (u := 0) (by decide) b1 (by decide)).2, b2, hb⟩
/-- kept, then changed -/
theorem WS.kept (W : WS h A γ n nw sc L B) {k nx nw' sc' b : Nat} {B9 : Bu} (ci : CI h A k nx) (hb : hR h (A 22) 2 = some b) (q : QR h A k nx nw' sc' B9 h9) : ∃ γ', WS (wB h9 b F) A γ' n nw sc L (nB F) ∧ Fm h (wB h9 b F) A n := by
  obtain ⟨w0, c, -, -, -⟩ := id W
  obtain ⟨γ', c1, ⟨k', nx', ci'⟩, c3, c4, c5, c6, c7⟩ := QR_use c ci q
  obtain ⟨d1, d2, d3⟩ := c7 0 b (by decide) (by omega) hb
  have B9 := c1.2.2.2.1.1 0 b (by decide) d1
  have F9 := c.2.2.1
  have f : Fm h (wB h9 b F) A n := fun i hi h2 => by
    obtain ⟨g1, g2, g3⟩ := F9.2 i hi
    obtain ⟨k1, k2, k3⟩ := c4 (A i) g1
    exact ⟨(wB_fix c1 (by decide) d1 hi).trans (c3 i hi (by omega)), k2, k3, k1 (F9.ne hi (c.ix (by decide) (by decide)) (by omega))⟩
  refine ⟨γ', W.fm f (c1.sh ⟨rfl, rfl, rfl⟩) ⟨k', nx', ?_⟩ ⟨b, d1, vB_wB B9.1⟩, f⟩
  unfold CI
  rw [wB_fix c1 (by decide) d1 (c.ix (by decide) (by decide))]
  exact ci'
end
theorem wg_HS_day {E : En} {h : Hp} {A γ : Nat → Nat} {n nw sc ni U : Nat} {L B : Bu} (W : WS h A γ n nw sc L B) (hG : Gd B nw sc ni U) : CR E m_HS_day [.ref (A 22)] h (some (.int (B.1 9))) h := by
  obtain ⟨b, b1, b2, -, b4⟩ := W.bu
  have z := cs_HS_day (E := E) W.kx b1 b2 hG
  rw [b4] at z
  exact z
theorem wg_HS_weightCount {E : En} {h : Hp} {A γ : Nat → Nat} {n nw sc ni U : Nat} {L B : Bu} (W : WS h A γ n nw sc L B) (hG : Gd B nw sc ni U) : CR E m_HS_weightCount [.ref (A 22)] h (some (.int (B.1 7))) h := by
  obtain ⟨b, b1, b2, -, b4⟩ := W.bu
  have z := cs_HS_weightCount (E := E) W.kx b1 b2 hG
  rw [b4] at z
  exact z
theorem wg_HS_fee {E : En} {h : Hp} {A γ : Nat → Nat} {n nw sc ni U : Nat} {L B : Bu} (W : WS h A γ n nw sc L B) (hG : Gd B nw sc ni U) : CR E m_HS_fee [.ref (A 22)] h (some (.int (B.1 2))) h := by
  obtain ⟨b, b1, b2, -, b4⟩ := W.bu
  have z := cs_HS_fee (E := E) W.kx b1 b2 hG
  rw [b4] at z
  exact z
theorem wg_HS_inspectors {E : En} {h : Hp} {A γ : Nat → Nat} {n nw sc ni U : Nat} {L B : Bu} (W : WS h A γ n nw sc L B) (hG : Gd B nw sc ni U) : CR E m_HS_inspectors [.ref (A 22)] h (some (.int (B.1 5))) h := by
  obtain ⟨b, b1, b2, -, b4⟩ := W.bu
  have z := cs_HS_inspectors (E := E) W.kx b1 b2 hG
  rw [b4] at z
  exact z
theorem wg_HS_seed {E : En} {h : Hp} {A γ : Nat → Nat} {n nw sc ni U : Nat} {L B : Bu} (W : WS h A γ n nw sc L B) (hG : Gd B nw sc ni U) : CR E m_HS_seed [.ref (A 22)] h (some (.int (B.1 6))) h := by
  obtain ⟨b, b1, b2, -, b4⟩ := W.bu
  have z := cs_HS_seed (E := E) W.kx b1 b2 hG
  rw [b4] at z
  exact z
theorem wg_HS_bureauCoins {E : En} {h : Hp} {A γ : Nat → Nat} {n nw sc ni U : Nat} {L B : Bu} (W : WS h A γ n nw sc L B) (hG : Gd B nw sc ni U) : CR E m_HS_bureauCoins [.ref (A 22)] h (some (.int (B.1 10))) h := by
  obtain ⟨b, b1, b2, -, b4⟩ := W.bu
  have z := cs_HS_bureauCoins (E := E) W.kx b1 b2 hG
  rw [b4] at z
  exact z
theorem wg_HS_visits {E : En} {h : Hp} {A γ : Nat → Nat} {n nw sc ni U : Nat} {L B : Bu} (W : WS h A γ n nw sc L B) (hG : Gd B nw sc ni U) : CR E m_HS_visits [.ref (A 22)] h (some (.int (B.1 11))) h := by
  obtain ⟨b, b1, b2, -, b4⟩ := W.bu
  have z := cs_HS_visits (E := E) W.kx b1 b2 hG
  rw [b4] at z
  exact z
theorem wg_HS_openShops {E : En} {h : Hp} {A γ : Nat → Nat} {n nw sc ni U : Nat} {L B : Bu} (W : WS h A γ n nw sc L B) (hG : Gd B nw sc ni U) : CR E m_HS_openShops [.ref (A 22)] h (some (.int (nI (P_open B.2.2 sc)))) h := by
  obtain ⟨b, b1, b2, -, b4⟩ := W.bu
  have z := cs_HS_openShops (E := E) W.kx b1 b2 hG
  rw [b4] at z
  exact z
theorem wg_HS_offset {E : En} {h : Hp} {A γ : Nat → Nat} {n nw sc ni U : Nat} {L B : Bu} {i : Nat} (W : WS h A γ n nw sc L B) (hG : Gd B nw sc ni U) (hi : i < sc) : CR E m_HS_offset [.ref (A 22), .int (nI i)] h (some (.int (B.2.2 i 1))) h := by
  obtain ⟨b, b1, b2, -, b4⟩ := W.bu
  have z := cs_HS_offset (E := E) W.kx b1 b2 hG hi
  rw [b4] at z
  exact z
theorem wg_HS_slope {E : En} {h : Hp} {A γ : Nat → Nat} {n nw sc ni U : Nat} {L B : Bu} {i : Nat} (W : WS h A γ n nw sc L B) (hG : Gd B nw sc ni U) (hi : i < sc) : CR E m_HS_slope [.ref (A 22), .int (nI i)] h (some (.int (B.2.2 i 2))) h := by
  obtain ⟨b, b1, b2, -, b4⟩ := W.bu
  have z := cs_HS_slope (E := E) W.kx b1 b2 hG hi
  rw [b4] at z
  exact z
theorem wg_HS_stampedUntil {E : En} {h : Hp} {A γ : Nat → Nat} {n nw sc ni U : Nat} {L B : Bu} {i : Nat} (W : WS h A γ n nw sc L B) (hG : Gd B nw sc ni U) (hi : i < sc) : CR E m_HS_stampedUntil [.ref (A 22), .int (nI i)] h (some (.int (B.2.2 i 11))) h := by
  obtain ⟨b, b1, b2, -, b4⟩ := W.bu
  have z := cs_HS_stampedUntil (E := E) W.kx b1 b2 hG hi
  rw [b4] at z
  exact z
theorem wg_HS_thumb {E : En} {h : Hp} {A γ : Nat → Nat} {n nw sc ni U : Nat} {L B : Bu} {i : Nat} (W : WS h A γ n nw sc L B) (hG : Gd B nw sc ni U) (hi : i < sc) : CR E m_HS_thumb [.ref (A 22), .int (nI i)] h (some (.int (B.2.2 i 6))) h := by
  obtain ⟨b, b1, b2, -, b4⟩ := W.bu
  have z := cs_HS_thumb (E := E) W.kx b1 b2 hG hi
  rw [b4] at z
  exact z
theorem wg_HS_complaints {E : En} {h : Hp} {A γ : Nat → Nat} {n nw sc ni U : Nat} {L B : Bu} {i : Nat} (W : WS h A γ n nw sc L B) (hG : Gd B nw sc ni U) (hi : i < sc) : CR E m_HS_complaints [.ref (A 22), .int (nI i)] h (some (.int (B.2.2 i 8))) h := by
  obtain ⟨b, b1, b2, -, b4⟩ := W.bu
  have z := cs_HS_complaints (E := E) W.kx b1 b2 hG hi
  rw [b4] at z
  exact z
theorem wg_HS_failures {E : En} {h : Hp} {A γ : Nat → Nat} {n nw sc ni U : Nat} {L B : Bu} {i : Nat} (W : WS h A γ n nw sc L B) (hG : Gd B nw sc ni U) (hi : i < sc) : CR E m_HS_failures [.ref (A 22), .int (nI i)] h (some (.int (B.2.2 i 9))) h := by
  obtain ⟨b, b1, b2, -, b4⟩ := W.bu
  have z := cs_HS_failures (E := E) W.kx b1 b2 hG hi
  rw [b4] at z
  exact z
theorem wg_HS_latestVisit {E : En} {h : Hp} {A γ : Nat → Nat} {n nw sc ni U : Nat} {L B : Bu} {i : Nat} (W : WS h A γ n nw sc L B) (hG : Gd B nw sc ni U) (hi : i < sc) : CR E m_HS_latestVisit [.ref (A 22), .int (nI i)] h (some (.int (B.2.2 i 10))) h := by
  obtain ⟨b, b1, b2, -, b4⟩ := W.bu
  have z := cs_HS_latestVisit (E := E) W.kx b1 b2 hG hi
  rw [b4] at z
  exact z
theorem wg_HS_finesOf {E : En} {h : Hp} {A γ : Nat → Nat} {n nw sc ni U : Nat} {L B : Bu} {i : Nat} (W : WS h A γ n nw sc L B) (hG : Gd B nw sc ni U) (hi : i < sc) : CR E m_HS_finesOf [.ref (A 22), .int (nI i)] h (some (.int (B.2.2 i 13))) h := by
  obtain ⟨b, b1, b2, -, b4⟩ := W.bu
  have z := cs_HS_finesOf (E := E) W.kx b1 b2 hG hi
  rw [b4] at z
  exact z
theorem wg_HS_gainsOf {E : En} {h : Hp} {A γ : Nat → Nat} {n nw sc ni U : Nat} {L B : Bu} {i : Nat} (W : WS h A γ n nw sc L B) (hG : Gd B nw sc ni U) (hi : i < sc) : CR E m_HS_gainsOf [.ref (A 22), .int (nI i)] h (some (.int (B.2.2 i 14))) h := by
  obtain ⟨b, b1, b2, -, b4⟩ := W.bu
  have z := cs_HS_gainsOf (E := E) W.kx b1 b2 hG hi
  rw [b4] at z
  exact z
theorem wg_HS_purse {E : En} {h : Hp} {A γ : Nat → Nat} {n nw sc ni U : Nat} {L B : Bu} {i : Nat} (W : WS h A γ n nw sc L B) (hG : Gd B nw sc ni U) (hi : i < sc) : CR E m_HS_purse [.ref (A 22), .int (nI i)] h (some (.int (B.2.2 i 0))) h := by
  obtain ⟨b, b1, b2, -, b4⟩ := W.bu
  have z := cs_HS_purse (E := E) W.kx b1 b2 hG hi
  rw [b4] at z
  exact z
theorem wg_HS_isOpen {E : En} {h : Hp} {A γ : Nat → Nat} {n nw sc ni U : Nat} {L B : Bu} {i : Nat} (W : WS h A γ n nw sc L B) (hG : Gd B nw sc ni U) (hi : i < sc) : CR E m_HS_isOpen [.ref (A 22), .int (nI i)] h (some (.int (bI (decide (B.2.2 i 12 ≠ 0))))) h := by
  obtain ⟨b, b1, b2, -, b4⟩ := W.bu
  have z := cs_HS_isOpen (E := E) W.kx b1 b2 hG hi
  rw [b4] at z
  exact z
theorem wg_HS_totalExcess {E : En} {h : Hp} {A γ : Nat → Nat} {n nw sc ni U : Nat} {L B : Bu} {i : Nat} (W : WS h A γ n nw sc L B) (hG : Gd B nw sc ni U) (hi : i < sc) : CR E m_HS_totalExcess [.ref (A 22), .int (nI i)] h (some (.int (M_tot B.1 B.2.1 (B.2.2 i) nw))) h := by
  obtain ⟨b, b1, b2, -, b4⟩ := W.bu
  have z := cs_HS_totalExcess (E := E) W.kx b1 b2 hG hi
  rw [b4] at z
  exact z
theorem wg_HS_isTrue {E : En} {h : Hp} {A γ : Nat → Nat} {n nw sc ni U : Nat} {L B : Bu} {i : Nat} (W : WS h A γ n nw sc L B) (hG : Gd B nw sc ni U) (hi : i < sc) : CR E m_HS_isTrue [.ref (A 22), .int (nI i)] h (some (.int (bI (decide ((M_tot B.1 B.2.1 (B.2.2 i) nw) = 0))))) h := by
  obtain ⟨b, b1, b2, -, b4⟩ := W.bu
  have z := cs_HS_isTrue (E := E) W.kx b1 b2 hG hi
  rw [b4] at z
  exact z
theorem wg_HS_worstWeight {E : En} {h : Hp} {A γ : Nat → Nat} {n nw sc ni U : Nat} {L B : Bu} {i : Nat} (W : WS h A γ n nw sc L B) (hG : Gd B nw sc ni U) (hi : i < sc) : CR E m_HS_worstWeight [.ref (A 22), .int (nI i)] h (some (.int (nI (P_worst B.1 B.2.1 (B.2.2 i) (nw - 1))))) h := by
  obtain ⟨b, b1, b2, -, b4⟩ := W.bu
  have z := cs_HS_worstWeight (E := E) W.kx b1 b2 hG hi
  rw [b4] at z
  exact z
theorem wg_HS_isStamped {E : En} {h : Hp} {A γ : Nat → Nat} {n nw sc ni U : Nat} {L B : Bu} {i : Nat} (W : WS h A γ n nw sc L B) (hG : Gd B nw sc ni U) (hi : i < sc) : CR E m_HS_isStamped [.ref (A 22), .int (nI i)] h (some (.int (bI (M_stamped (B.2.2 i) (B.1 9))))) h := by
  obtain ⟨b, b1, b2, -, b4⟩ := W.bu
  have z := cs_HS_isStamped (E := E) W.kx b1 b2 hG hi
  rw [b4] at z
  exact z
theorem wg_HS_usesThumb {E : En} {h : Hp} {A γ : Nat → Nat} {n nw sc ni U : Nat} {L B : Bu} {i : Nat} (W : WS h A γ n nw sc L B) (hG : Gd B nw sc ni U) (hi : i < sc) : CR E m_HS_usesThumb [.ref (A 22), .int (nI i)] h (some (.int (bI (M_uses (B.2.2 i) (B.1 9 + 1))))) h := by
  obtain ⟨b, b1, b2, -, b4⟩ := W.bu
  have z := cs_HS_usesThumb (E := E) W.kx b1 b2 hG hi
  rw [b4] at z
  exact z
theorem wg_HS_fineIfVisited {E : En} {h : Hp} {A γ : Nat → Nat} {n nw sc ni U : Nat} {L B : Bu} {i : Nat} (W : WS h A γ n nw sc L B) (hG : Gd B nw sc ni U) (hi : i < sc) : CR E m_HS_fineIfVisited [.ref (A 22), .int (nI i)] h (some (.int (M_fine B.1 (M_tot B.1 B.2.1 (B.2.2 i) nw) (M_stamped (B.2.2 i) (B.1 9))))) h := by
  obtain ⟨b, b1, b2, -, b4⟩ := W.bu
  have z := cs_HS_fineIfVisited (E := E) W.kx b1 b2 hG hi
  rw [b4] at z
  exact z
theorem wg_HS_ounces {E : En} {h : Hp} {A γ : Nat → Nat} {n nw sc ni U : Nat} {L B : Bu} {i : Nat} (W : WS h A γ n nw sc L B) (hG : Gd B nw sc ni U) (hi : i < sc) : CR E m_HS_ounces [.ref (A 22), .int (nI i)] h (some (.int (M_ounces (M_tot B.1 B.2.1 (B.2.2 i) nw)))) h := by
  obtain ⟨b, b1, b2, -, b4⟩ := W.bu
  have z := cs_HS_ounces (E := E) W.kx b1 b2 hG hi
  rw [b4] at z
  exact z
theorem wg_HS_whyFail {E : En} {h : Hp} {A γ : Nat → Nat} {n nw sc ni U : Nat} {L B : Bu} {i : Nat} (W : WS h A γ n nw sc L B) (hG : Gd B nw sc ni U) (hi : i < sc) : CR E m_HS_whyFail [.ref (A 22), .int (nI i)] h (some (.int (M_why (M_tot B.1 B.2.1 (B.2.2 i) nw) (M_stamped (B.2.2 i) (B.1 9))))) h := by
  obtain ⟨b, b1, b2, -, b4⟩ := W.bu
  have z := cs_HS_whyFail (E := E) W.kx b1 b2 hG hi
  rw [b4] at z
  exact z
theorem wg_HS_bound {E : En} {h : Hp} {A γ : Nat → Nat} {n nw sc ni U : Nat} {L B : Bu} {yv : Int32} (W : WS h A γ n nw sc L B) (hG : Gd B nw sc ni U) (hr1 : 1 ≤ yv) (hr2 : yv ≤ 5000) : CR E m_HS_bound [.ref (A 22), .int yv] h (some (.int (M_bound B.1 yv))) h := by
  obtain ⟨b, b1, b2, -, b4⟩ := W.bu
  have z := cs_HS_bound (E := E) W.kx b1 b2 hG hr1 hr2
  rw [b4] at z
  exact z
theorem wg_HS_reading {E : En} {h : Hp} {A γ : Nat → Nat} {n nw sc ni U : Nat} {L B : Bu} {i : Nat} {yv : Int32} (W : WS h A γ n nw sc L B) (hG : Gd B nw sc ni U) (hi : i < sc) (hr1 : 1 ≤ yv) (hr2 : yv ≤ 5000) : CR E m_HS_reading [.ref (A 22), .int (nI i), .int yv] h (some (.int (yv + M_err (B.2.2 i) yv))) h := by
  obtain ⟨b, b1, b2, -, b4⟩ := W.bu
  have z := cs_HS_reading (E := E) W.kx b1 b2 hG hi hr1 hr2
  rw [b4] at z
  exact z
theorem wg_HS_excess {E : En} {h : Hp} {A γ : Nat → Nat} {n nw sc ni U : Nat} {L B : Bu} {i : Nat} {yv : Int32} (W : WS h A γ n nw sc L B) (hG : Gd B nw sc ni U) (hi : i < sc) (hr1 : 1 ≤ yv) (hr2 : yv ≤ 5000) : CR E m_HS_excess [.ref (A 22), .int (nI i), .int yv] h (some (.int (M_exc B.1 (B.2.2 i) yv))) h := by
  obtain ⟨b, b1, b2, -, b4⟩ := W.bu
  have z := cs_HS_excess (E := E) W.kx b1 b2 hG hi hr1 hr2
  rw [b4] at z
  exact z
theorem wg_HS_testWeight {E : En} {h : Hp} {A γ : Nat → Nat} {n nw sc ni U : Nat} {L B : Bu} {j : Nat} (W : WS h A γ n nw sc L B) (hG : Gd B nw sc ni U) (hj : j < nw) : CR E m_HS_testWeight [.ref (A 22), .int (nI j)] h (some (.int (B.2.1 j))) h := by
  obtain ⟨b, b1, b2, -, b4⟩ := W.bu
  have z := cs_HS_testWeight (E := E) W.kx b1 b2 hG hj
  rw [b4] at z
  exact z
theorem wg_HS_shopAtRank {E : En} {h : Hp} {A γ : Nat → Nat} {n nw sc ni U : Nat} {L B : Bu} {yv : Int32} (W : WS h A γ n nw sc L B) (hG : Gd B nw sc ni U) : CR E m_HS_shopAtRank [.ref (A 22), .int yv] h (some (.int (Q_rank B.2.2 sc yv sc))) h := by
  obtain ⟨b, b1, b2, -, b4⟩ := W.bu
  have z := cs_HS_shopAtRank (E := E) (yv := yv) W.kx b1 b2 hG
  rw [b4] at z
  exact z
theorem wg_HS_mostFined {E : En} {h : Hp} {A γ : Nat → Nat} {n nw sc ni U : Nat} {L B : Bu} (W : WS h A γ n nw sc L B) (hG : Gd B nw sc ni U) : CR E m_HS_mostFined [.ref (A 22)] h (some (.int (nI (Q_fined B.2.2 (sc - 1))))) h := by
  obtain ⟨b, b1, b2, -, b4⟩ := W.bu
  have z := cs_HS_mostFined (E := E) W.kx b1 b2 hG
  rw [b4] at z
  exact z
theorem wg_HS_coinError {E : En} {h : Hp} {A γ : Nat → Nat} {n nw sc ni U : Nat} {L B : Bu} (W : WS h A γ n nw sc L B) (hG : Gd B nw sc ni U) : CR E m_HS_coinError [.ref (A 22)] h (some (.int (Q_coin (P_money B.2.2 sc - B.1 10) B.2.2 sc))) h := by
  obtain ⟨b, b1, b2, -, b4⟩ := W.bu
  have z := cs_HS_coinError (E := E) W.kx b1 b2 hG
  rw [b4] at z
  exact z
theorem wg_HS_meanExcess {E : En} {h : Hp} {A γ : Nat → Nat} {n nw sc ni U : Nat} {L B : Bu} (W : WS h A γ n nw sc L B) (hG : Gd B nw sc ni U) : CR E m_HS_meanExcess [.ref (A 22)] h (some (.double (FP.ddiv (FP.i2d (Q_sum B.1 B.2.1 B.2.2 nw sc)) (FP.i2d (nI sc))))) h := by
  obtain ⟨b, b1, b2, -, b4⟩ := W.bu
  have z := cs_HS_meanExcess (E := E) W.kx b1 b2 hG
  rw [b4] at z
  exact z
theorem wg_HS_trueShare {E : En} {h : Hp} {A γ : Nat → Nat} {n nw sc ni U : Nat} {L B : Bu} (W : WS h A γ n nw sc L B) (hG : Gd B nw sc ni U) : CR E m_HS_trueShare [.ref (A 22)] h (some (.float (FP.fdiv (FP.i2f (nI (Q_true B.1 B.2.1 B.2.2 nw sc))) (FP.i2f (nI sc))))) h := by
  obtain ⟨b, b1, b2, -, b4⟩ := W.bu
  have z := cs_HS_trueShare (E := E) W.kx b1 b2 hG
  rw [b4] at z
  exact z
theorem wg_HS_nextVisitedZ {E : En} {h : Hp} {A γ : Nat → Nat} {n nw sc ni U : Nat} {L B : Bu} (W : WS h A γ n nw sc L B) (hG : Gd B nw sc ni U) (hn0 : B.1 5 = 0) : CR E m_HS_nextVisited [.ref (A 22)] h (some (.int (-1))) h := by
  obtain ⟨b, b1, b2, -, b4⟩ := W.bu
  have z := cs_HS_nextVisitedZ (E := E) W.kx b1 b2 hG hn0
  rw [b4] at z
  exact z
theorem wt_HS_nextVisited {E : En} {h : Hp} {A γ : Nat → Nat} {n nw sc ni U : Nat} {L B : Bu} (W : WS h A γ n nw sc L B) (hG : Gd B nw sc ni U) (hn0 : ¬ B.1 5 = 0) (hU : U < 2000000000) : CT E m_HS_nextVisited [.ref (A 22)] h 0 0 (fun v h1 => v = some (.int (oI (P_choose (P_trade sc (P_begin sc B)) sc).1)) ∧ WS h1 A γ n nw sc L B ∧ Fm h h1 A n) noX := by
  obtain ⟨nb, b, t1, t2, t3, t4, t5, t6, t7⟩ := W.tr
  have J : Jq nw sc (P_copy nw sc (vB h b) (vB h nb)) B := by rw [t6]; exact Jq_copy
  have h0 := hG.1.2.2.2.2.1
  have z := cs_HS_nextVisited (E := E) (ni := ni) (U := U) W.kx t1 t2 t3 t4 t5 (by rw [t6]; exact hG) rfl (by rw [t6]; exact hn0) hU
  refine z.mono (fun v h1 r => ?_) (fun _ _ x => x)
  obtain ⟨r1, r2⟩ := r
  subst r2
  exact ⟨by rw [r1, (Jq.choose h0 J.begin.trade).1], W.try t7⟩
theorem wt_HS_nextGain {E : En} {h : Hp} {A γ : Nat → Nat} {n nw sc ni U : Nat} {L B : Bu} {i : Nat} (W : WS h A γ n nw sc L B) (hG : Gd B nw sc ni U) (hi : i < sc) (hop1 : B.2.2 i 12 = 1) : CT E m_HS_nextGain [.ref (A 22), .int (nI i)] h 0 0 (fun v h1 => v = some (.int (M_gain (u1 B.1 9 (B.1 9 + 1)) (M_drift (B.2.2 i)) (M_false (M_drift (B.2.2 i)) (B.1 9 + 1)))) ∧ WS h1 A γ n nw sc L B ∧ Fm h h1 A n) noX := by
  obtain ⟨nb, b, t1, t2, t3, t4, t5, t6, t7⟩ := W.tr
  have J : Jq nw sc (P_copy nw sc (vB h b) (vB h nb)) B := by rw [t6]; exact Jq_copy
  have h0 := hG.1.2.2.2.2.1
  have z := cs_HS_nextGain (E := E) (ni := ni) (U := U) (i := i) W.kx t1 t2 t3 t4 t5 (by rw [t6]; exact hG) rfl hi (by rw [J.2.2 i hi 12 (by decide)]; exact hop1)
  refine z.mono (fun v h1 r => ?_) (fun _ _ x => x)
  obtain ⟨r1, r2⟩ := r
  subst r2
  have e1 : Js (M_drift ((P_copy nw sc (vB h b) (vB h nb)).2.2 i)) (M_drift (B.2.2 i)) := Js_u (J.2.2 i hi) (by rw [J.2.2 i hi 1 (by decide), J.2.2 i hi 3 (by decide)])
  exact ⟨by rw [r1, J.1 9 (by decide), M_false_J e1, M_gain_J (Jc_u J.1 rfl) e1], W.try t7⟩
theorem wt_HS_nextGainC {E : En} {h : Hp} {A γ : Nat → Nat} {n nw sc ni U : Nat} {L B : Bu} {i : Nat} (W : WS h A γ n nw sc L B) (hG : Gd B nw sc ni U) (hi : i < sc) (hop1 : B.2.2 i 12 = 0) : CT E m_HS_nextGain [.ref (A 22), .int (nI i)] h 0 0 (fun v h1 => v = some (.int (0)) ∧ WS h1 A γ n nw sc L B ∧ Fm h h1 A n) noX := by
  obtain ⟨nb, b, t1, t2, t3, t4, t5, t6, t7⟩ := W.tr
  have J : Jq nw sc (P_copy nw sc (vB h b) (vB h nb)) B := by rw [t6]; exact Jq_copy
  have h0 := hG.1.2.2.2.2.1
  have z := cs_HS_nextGainC (E := E) (ni := ni) (U := U) (i := i) W.kx t1 t2 t3 t4 t5 (by rw [t6]; exact hG) rfl hi (by rw [J.2.2 i hi 12 (by decide)]; exact hop1)
  refine z.mono (fun v h1 r => ?_) (fun _ _ x => x)
  obtain ⟨r1, r2⟩ := r
  subst r2
  exact ⟨r1, W.try t7⟩
theorem wt_HS_purseAfter {E : En} {h : Hp} {A γ : Nat → Nat} {n nw sc ni U : Nat} {L B : Bu} {i days : Nat} (W : WS h A γ n nw sc L B) (hG : Gd B nw sc ni U) (hi : i < sc) (hdy : days < 1000) (hr1 : (0 : Int32) ≤ nI days) (hr2 : nI days ≤ 200) : CT E m_HS_purseAfter [.ref (A 22), .int (nI i), .int (nI days)] h 0 0 (fun v h1 => v = some (.int (Q_purse B nw sc ni i days)) ∧ WS h1 A γ n nw sc L B ∧ Fm h h1 A n) noX := by
  obtain ⟨nb, b, t1, t2, t3, t4, t5, t6, t7⟩ := W.tr
  have J : Jq nw sc (P_copy nw sc (vB h b) (vB h nb)) B := by rw [t6]; exact Jq_copy
  have h0 := hG.1.2.2.2.2.1
  have z := cs_HS_purseAfter (E := E) (ni := ni) (U := U) (i := i) W.kx t1 t2 t3 t4 t5 (by rw [t6]; exact hG) rfl hi hdy hr1 hr2
  refine z.mono (fun v h1 r => ?_) (fun _ _ x => x)
  obtain ⟨r1, r2⟩ := r
  subst r2
  exact ⟨by rw [r1]; unfold Q_purse; rw [(Jq.pass h0 (ni := ni) days 0 _ _ J).2.2.2 i hi 0 (by decide)], W.try t7⟩
theorem Q_closed_J {nw sc ni i : Nat} (h0 : 0 < sc) (hi : i < sc) : ∀ (n d : Nat) (B C : Bu), Jq nw sc B C → Q_closed nw sc ni i n d B = Q_closed nw sc ni i n d C
  | 0, _, _, _, _ => rfl
  | n + 1, d, B, C, h => by rw [Q_closed, Q_closed, h.2.2 i hi 12 (by decide), Q_closed_J h0 hi n (d + 1) _ _ (Jq.day h0 (ni := ni) (m := 0) h).2]
theorem wt_HS_daysUntilClosed {E : En} {h : Hp} {A γ : Nat → Nat} {n nw sc ni U : Nat} {L B : Bu} {i : Nat} (W : WS h A γ n nw sc L B) (hG : Gd B nw sc ni U) (hi : i < sc) (hU : U ≤ 1999999000) : CT E m_HS_daysUntilClosed [.ref (A 22), .int (nI i)] h 0 0 (fun v h1 => v = some (.int (Q_closed nw sc ni i 201 0 B)) ∧ WS h1 A γ n nw sc L B ∧ Fm h h1 A n) noX := by
  obtain ⟨nb, b, t1, t2, t3, t4, t5, t6, t7⟩ := W.tr
  have J : Jq nw sc (P_copy nw sc (vB h b) (vB h nb)) B := by rw [t6]; exact Jq_copy
  have h0 := hG.1.2.2.2.2.1
  have z := cs_HS_daysUntilClosed (E := E) (ni := ni) (U := U) (i := i) W.kx t1 t2 t3 t4 t5 (by rw [t6]; exact hG) rfl hi hU
  refine z.mono (fun v h1 r => ?_) (fun _ _ x => x)
  obtain ⟨r1, F, r2⟩ := r
  subst r2
  exact ⟨by rw [r1, Q_closed_J h0 hi 201 0 _ _ J], W.try t7⟩
theorem wm_HS_passDays {E : En} {h : Hp} {A γ : Nat → Nat} {n nw sc ni U : Nat} {L B : Bu} {days : Nat} (W : WS h A γ n nw sc L B) (hG : Gd B nw sc ni U) (hdy : days < 1000) (hr1 : (1 : Int32) ≤ nI days) (hr2 : nI days ≤ 100) : CT E m_HS_passDays [.ref (A 22), .int (nI days)] h 11 156 (fun v h1 => v = some (.int (nI (P_pass nw sc ni days (0, B)).1)) ∧ ∃ γ', WS h1 A γ' n nw sc L (nB ((P_pass nw sc ni days (0, B)).2)) ∧ Fm h h1 A n) noX := by
  obtain ⟨b, b1, b2, b3, -⟩ := W.bu
  obtain ⟨k, nx, ci⟩ := W.2.2.1
  have hy := W.2.1.2.1
  have z := cs_HS_passDays (E := E) (Q := QR h A k nx nw sc B) W.kx b1 hy.1.2.2.2.1 hy.2.2.2.2.1.1 b2 b3 hG (QR_ct W.2.1 ci b1 b3 hG) (fun h9 q => QR_Kx W.2.1 ci b1 b3 q) hdy hr1 hr2
  refine z.mono (fun v h1 r => ?_) (fun _ _ x => x)
  obtain ⟨h9, q, r1, r2⟩ := r
  subst r2
  exact ⟨r1, W.kept ci b1 q⟩
theorem wm_HS_visit {E : En} {h : Hp} {A γ : Nat → Nat} {n nw sc ni U : Nat} {L B : Bu} {i : Nat} (W : WS h A γ n nw sc L B) (hG : Gd B nw sc ni U) (hi : i < sc) (hop1 : B.2.2 i 12 = 1) : CT E m_HS_visit [.ref (A 22), .int (nI i)] h 11 156 (fun v h1 => v = some (.int (P_fine B i nw)) ∧ ∃ γ', WS h1 A γ' n nw sc L (nB (P_ins B i nw)) ∧ Fm h h1 A n) noX := by
  obtain ⟨b, b1, b2, b3, -⟩ := W.bu
  obtain ⟨k, nx, ci⟩ := W.2.2.1
  have hy := W.2.1.2.1
  have z := cs_HS_visit (E := E) (Q := QR h A k nx nw sc B) W.kx b1 hy.1.2.2.2.1 hy.2.2.2.2.1.1 b2 b3 hG (QR_ct W.2.1 ci b1 b3 hG) (fun h9 q => QR_Kx W.2.1 ci b1 b3 q) hi hop1
  refine z.mono (fun v h1 r => ?_) (fun _ _ x => x)
  obtain ⟨h9, q, r1, r2⟩ := r
  subst r2
  exact ⟨r1, W.kept ci b1 q⟩
theorem wm_HS_repair {E : En} {h : Hp} {A γ : Nat → Nat} {n nw sc ni U : Nat} {L B : Bu} {i : Nat} (W : WS h A γ n nw sc L B) (hG : Gd B nw sc ni U) (hi : i < sc) (hpay : M_canPay (B.2.2 i) = true) : CT E m_HS_repair [.ref (A 22), .int (nI i)] h 11 156 (fun v h1 => v = some (.int (B.2.2 i 0 - 10)) ∧ ∃ γ', WS h1 A γ' n nw sc L (nB (P_repair B i)) ∧ Fm h h1 A n) noX := by
  obtain ⟨b, b1, b2, b3, -⟩ := W.bu
  obtain ⟨k, nx, ci⟩ := W.2.2.1
  have hy := W.2.1.2.1
  have z := cs_HS_repair (E := E) (Q := QR h A k nx nw sc B) W.kx b1 hy.1.2.2.2.1 hy.2.2.2.2.1.1 b2 b3 hG (QR_ct W.2.1 ci b1 b3 hG) (fun h9 q => QR_Kx W.2.1 ci b1 b3 q) hi hpay
  refine z.mono (fun v h1 r => ?_) (fun _ _ x => x)
  obtain ⟨h9, q, r1, r2⟩ := r
  subst r2
  exact ⟨r1, W.kept ci b1 q⟩
theorem wm_HS_setThumb {E : En} {h : Hp} {A γ : Nat → Nat} {n nw sc ni U : Nat} {L B : Bu} {i : Nat} {yv : Int32} (W : WS h A γ n nw sc L B) (hG : Gd B nw sc ni U) (hi : i < sc) (hr1 : 0 ≤ yv) (hr2 : yv ≤ 100) : CT E m_HS_setThumb [.ref (A 22), .int (nI i), .int yv] h 11 156 (fun v h1 => v = some (.int (B.2.2 i 6)) ∧ ∃ γ', WS h1 A γ' n nw sc L (nB (Q_thumb B i yv)) ∧ Fm h h1 A n) noX := by
  obtain ⟨b, b1, b2, b3, -⟩ := W.bu
  obtain ⟨k, nx, ci⟩ := W.2.2.1
  have hy := W.2.1.2.1
  have z := cs_HS_setThumb (E := E) (Q := QR h A k nx nw sc B) W.kx b1 hy.1.2.2.2.1 hy.2.2.2.2.1.1 b2 b3 hG (QR_ct W.2.1 ci b1 b3 hG) (fun h9 q => QR_Kx W.2.1 ci b1 b3 q) hi hr1 hr2
  refine z.mono (fun v h1 r => ?_) (fun _ _ x => x)
  obtain ⟨h9, q, r1, r2⟩ := r
  subst r2
  exact ⟨r1, W.kept ci b1 q⟩
theorem wm_HS_complain {E : En} {h : Hp} {A γ : Nat → Nat} {n nw sc ni U : Nat} {L B : Bu} {i : Nat} (W : WS h A γ n nw sc L B) (hG : Gd B nw sc ni U) (hi : i < sc) (hop1 : B.2.2 i 12 = 1) : CT E m_HS_complain [.ref (A 22), .int (nI i)] h 11 156 (fun v h1 => v = some (.int (B.2.2 i 8 + 1)) ∧ ∃ γ', WS h1 A γ' n nw sc L (nB (sS B i (u1 (B.2.2 i) 8 (B.2.2 i 8 + 1)))) ∧ Fm h h1 A n) noX := by
  obtain ⟨b, b1, b2, b3, -⟩ := W.bu
  obtain ⟨k, nx, ci⟩ := W.2.2.1
  have hy := W.2.1.2.1
  have z := cs_HS_complain (E := E) (Q := QR h A k nx nw sc B) W.kx b1 hy.1.2.2.2.1 hy.2.2.2.2.1.1 b2 b3 hG (QR_ct W.2.1 ci b1 b3 hG) (fun h9 q => QR_Kx W.2.1 ci b1 b3 q) hi hop1
  refine z.mono (fun v h1 r => ?_) (fun _ _ x => x)
  obtain ⟨h9, q, r1, r2⟩ := r
  subst r2
  exact ⟨r1, W.kept ci b1 q⟩
theorem wm_HS_reopen {E : En} {h : Hp} {A γ : Nat → Nat} {n nw sc ni U : Nat} {L B : Bu} {i : Nat} (W : WS h A γ n nw sc L B) (hG : Gd B nw sc ni U) (hi : i < sc) (hop1 : B.2.2 i 12 = 0) : CT E m_HS_reopen [.ref (A 22), .int (nI i)] h 11 156 (fun v h1 => v = some (.int (nI (P_open (sS B i (M_open (B.2.2 i))).2.2 sc))) ∧ ∃ γ', WS h1 A γ' n nw sc L (nB (sS B i (M_open (B.2.2 i)))) ∧ Fm h h1 A n) noX := by
  obtain ⟨b, b1, b2, b3, -⟩ := W.bu
  obtain ⟨k, nx, ci⟩ := W.2.2.1
  have hy := W.2.1.2.1
  have z := cs_HS_reopen (E := E) (Q := QR h A k nx nw sc B) W.kx b1 hy.1.2.2.2.1 hy.2.2.2.2.1.1 b2 b3 hG (QR_ct W.2.1 ci b1 b3 hG) (fun h9 q => QR_Kx W.2.1 ci b1 b3 q) hi hop1
  refine z.mono (fun v h1 r => ?_) (fun _ _ x => x)
  obtain ⟨h9, q, r1, r2⟩ := r
  subst r2
  exact ⟨r1, W.kept ci b1 q⟩
theorem wm_HS_setInspectors {E : En} {h : Hp} {A γ : Nat → Nat} {n nw sc ni U : Nat} {L B : Bu} {yv : Int32} (W : WS h A γ n nw sc L B) (hG : Gd B nw sc ni U) (hr1 : 0 ≤ yv) (hr2 : yv ≤ 3) : CT E m_HS_setInspectors [.ref (A 22), .int yv] h 11 156 (fun v h1 => v = some (.int (B.1 5)) ∧ ∃ γ', WS h1 A γ' n nw sc L (nB (sC B (u1 B.1 5 yv))) ∧ Fm h h1 A n) noX := by
  obtain ⟨b, b1, b2, b3, -⟩ := W.bu
  obtain ⟨k, nx, ci⟩ := W.2.2.1
  have hy := W.2.1.2.1
  have z := cs_HS_setInspectors (E := E) (Q := QR h A k nx nw sc B) W.kx b1 hy.1.2.2.2.1 hy.2.2.2.2.1.1 b2 b3 hG (QR_ct W.2.1 ci b1 b3 hG) (fun h9 q => QR_Kx W.2.1 ci b1 b3 q) hr1 hr2
  refine z.mono (fun v h1 r => ?_) (fun _ _ x => x)
  obtain ⟨h9, q, r1, r2⟩ := r
  subst r2
  exact ⟨r1, W.kept ci b1 q⟩
theorem wm_HS_setFee {E : En} {h : Hp} {A γ : Nat → Nat} {n nw sc ni U : Nat} {L B : Bu} {yv : Int32} (W : WS h A γ n nw sc L B) (hG : Gd B nw sc ni U) (hr1 : 0 ≤ yv) (hr2 : yv ≤ 99) : CT E m_HS_setFee [.ref (A 22), .int yv] h 11 156 (fun v h1 => v = some (.int (B.1 2)) ∧ ∃ γ', WS h1 A γ' n nw sc L (nB (sC B (u1 B.1 2 yv))) ∧ Fm h h1 A n) noX := by
  obtain ⟨b, b1, b2, b3, -⟩ := W.bu
  obtain ⟨k, nx, ci⟩ := W.2.2.1
  have hy := W.2.1.2.1
  have z := cs_HS_setFee (E := E) (Q := QR h A k nx nw sc B) W.kx b1 hy.1.2.2.2.1 hy.2.2.2.2.1.1 b2 b3 hG (QR_ct W.2.1 ci b1 b3 hG) (fun h9 q => QR_Kx W.2.1 ci b1 b3 q) hr1 hr2
  refine z.mono (fun v h1 r => ?_) (fun _ _ x => x)
  obtain ⟨h9, q, r1, r2⟩ := r
  subst r2
  exact ⟨r1, W.kept ci b1 q⟩
