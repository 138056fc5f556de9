/-! THE LAW: begun, its pieces -/
theorem CS.more {h : Hp} {A γ : Nat → Nat} {n a : Nat} (c : CS h A γ n) (hk : hK h a ≠ 0) (h5 : hK h a ≠ 5) (hg : γ a = a) (ne : ∀ i, Ix n i → A i ≠ a) : CS h (u1 A n a) γ (n + 1) := by
  have c3 := c.2.2.1
  have n23 := c.1
  have eA : ∀ i, i < 23 → u1 A n a i = A i := fun i hi => u1_ne (by omega)
  have eB : ∀ u, bA h (u1 A n a) u = bA h A u := fun u => by
    unfold bA
    rw [eA 22 (by decide), eA 13 (by decide), eA 11 (by decide)]
  have eS : ShC h (u1 A n a) := by
    have z := c.2.1
    unfold ShC
    rw [eA 22 (by decide), eA 14 (by decide), eA 15 (by decide), eA 12 (by decide), eA 11 (by decide), eA 9 (by decide), eA 21 (by decide), eA 17 (by decide), eA 16 (by decide), eA 18 (by decide), eA 19 (by decide), eA 20 (by decide), eA 13 (by decide), eA 10 (by decide)]
    exact z
  refine ⟨by omega, eS, ⟨fun i j hi hj z => ?_, fun i hi => ?_⟩, ⟨fun u b hu hub => ?_, fun u v b hu hv hub hvb => ?_⟩, by rw [eB]; exact c.2.2.2.2.1, by rw [eB]; exact c.2.2.2.2.2⟩
  · by_cases e1 : i = n
    · by_cases e2 : j = n
      · omega
      · rw [e1, u1_same, u1_ne e2] at z
        exact absurd z.symm (ne j ⟨hj.1, by have := hj.2; omega⟩)
    · by_cases e2 : j = n
      · rw [e2, u1_same, u1_ne e1] at z
        exact absurd z (ne i ⟨hi.1, by have := hi.2; omega⟩)
      · rw [u1_ne e1, u1_ne e2] at z
        exact c3.1 i j ⟨hi.1, by have := hi.2; omega⟩ ⟨hj.1, by have := hj.2; omega⟩ z
  · by_cases e1 : i = n
    · rw [e1, u1_same]
      exact ⟨hk, h5, hg⟩
    · rw [u1_ne e1]
      exact c3.2 i ⟨hi.1, by have := hi.2; omega⟩
  · rw [eB] at hub
    exact c.2.2.2.1.1 u b hu hub
  · rw [eB] at hub hvb
    exact c.2.2.2.1.2 u v b hu hv hub hvb
/-- a reference of a cell from number 23 on changes -/
theorem CS.ref {h : Hp} {A γ : Nat → Nat} {n m k : Nat} {v : Option Nat} (c : CS h A γ n) (h23 : 23 ≤ m) (hm : m < n) (h26 : hK h (A m) ≠ 26) : CS (sR h (A m) k v) A γ n ∧ (∀ u, bA (sR h (A m) k v) A u = bA h A u) ∧ ∀ u b, u < 12 → bA h A u = some b → vB (sR h (A m) k v) b = vB h b := by
  have F := c.2.2.1
  have im : Ix n m := ⟨by omega, hm⟩
  have K : Kp (A m) h (sR h (A m) k v) := Kp.sR _ _ _ _
  have g : ∀ i, 9 ≤ i → i < 23 → A i ≠ A m := fun i h1 hi => F.ne (c.ix h1 hi) im (by omega)
  have rr : ∀ i, 9 ≤ i → i < 23 → hR (sR h (A m) k v) (A i) = hR h (A i) := fun i h1 h2 => (K (A i) (F.2 i (c.ix h1 h2)).1).2.1 (g i h1 h2)
  have bo : ∀ u, bA (sR h (A m) k v) A u = bA h A u := fun u => by
    unfold bA
    rw [rr 22 (by decide) (by decide), rr 13 (by decide) (by decide), rr 11 (by decide) (by decide)]
  have n5 := (F.2 m im).2.1
  have bk : ∀ u b, u < 12 → bA h A u = some b → Bc (sR h (A m) k v) γ b ∧ vB (sR h (A m) k v) b = vB h b := fun u b hu hub => (c.2.2.2.1.1 u b hu hub).kq (γ' := γ) K n5 h26 (fun _ _ => rfl)
  refine ⟨⟨c.1, ?_, ⟨F.1, F.2⟩, ⟨fun u b hu hub => (bk u b hu (by rw [← bo]; exact hub)).1, fun u v b hu hv hub hvb => c.2.2.2.1.2 u v b hu hv (by rw [← bo]; exact hub) (by rw [← bo]; exact hvb)⟩, by rw [bo]; exact c.2.2.2.2.1, by rw [bo]; exact c.2.2.2.2.2⟩, bo, fun u b hu hub => (bk u b hu hub).2⟩
  obtain ⟨⟨c1, c2, c3, c4, c5, c6⟩, p, i, s, y, ⟨n1, n2⟩, b⟩ := c.2.1
  have r := rr 22 (by decide) (by decide)
  exact ⟨⟨c1, by rw [r]; exact c2, by rw [r]; exact c3, by rw [r]; exact c4, by rw [r]; exact c5, by rw [r]; exact c6⟩, p.kp K (g 14 (by decide) (by decide)), i.kp K (g 15 (by decide) (by decide)), s.kp K (g 17 (by decide) (by decide)), y.kp K (g 12 (by decide) (by decide)), ⟨n1, n2⟩, b.kp K (g 9 (by decide) (by decide))⟩
/-- the law's cells as begun fills them: p weights, q twins so far -/
def BG (h : Hp) (A γ : Nat → Nat) (V0 : Bu) (nw sc p q : Nat) (hw gw : Nat → Int32) (tv : Nat → Nat → Int32) : Prop := (CS h A γ (27 + q) ∧ (∃ k nx, CI h A k nx) ∧ hI h (A 15) 1 = nI 0 ∧ ∃ b, hR h (A 22) 2 = some b ∧ vB h b = V0) ∧ (hK h (A 23) = 8 ∧ hR h (A 23) 0 = some (A 24) ∧ hR h (A 23) 1 = some (A 25) ∧ hR h (A 23) 2 = some (A 26)) ∧ (hK h (A 24) = 20 ∧ hL h (A 24) = 10) ∧ (hK h (A 25) = 20 ∧ hL h (A 25) = nw) ∧ (hK h (A 26) = 27 ∧ hL h (A 26) = sc) ∧ (∀ j, j < 10 → hI h (A 24) j = hw j) ∧ (∀ j, j < p → hI h (A 25) j = gw j) ∧ ∀ i, i < q → hR h (A 26) i = some (A (27 + i)) ∧ hK h (A (27 + i)) = 10 ∧ ∀ f, f < 15 → hI h (A (27 + i)) f = tv i f
section
variable {h h1 : Hp} {A γ : Nat → Nat} {V0 : Bu} {nw sc p q : Nat} {hw gw : Nat → Int32} {tv : Nat → Nat → Int32}
theorem BG.ext (B : BG h A γ V0 nw sc p q hw gw tv) (e : Ext h h1) : BG h1 A (γo h γ) V0 nw sc p q hw gw tv := by
  obtain ⟨⟨c, ⟨k, nx, ci⟩, h15, b, b1, b2⟩, ⟨l1, l2, l3, l4⟩, ⟨l5, l6⟩, ⟨l7, l8⟩, ⟨l9, l10⟩, f1, f2, f3⟩ := B
  obtain ⟨d1, d2, d3⟩ := c.ext e
  have F := c.2.2.1
  have x : ∀ i, 9 ≤ i → i < 27 + q → hI h1 (A i) = hI h (A i) ∧ hR h1 (A i) = hR h (A i) ∧ hK h1 (A i) = hK h (A i) ∧ hL h1 (A i) = hL h (A i) := fun i h1 h2 => by
    obtain ⟨e1, e2, e3, e4, e5⟩ := e (A i) (F.2 i ⟨h1, h2⟩).1
    exact ⟨e1, e2, e4, e5⟩
  obtain ⟨a1, a2, a3, a4⟩ := x 23 (by decide) (by omega)
  obtain ⟨b3, b4, b5, b6⟩ := x 24 (by decide) (by omega)
  obtain ⟨c1, c2, c3, c4⟩ := x 25 (by decide) (by omega)
  obtain ⟨g1, g2, g3, g4⟩ := x 26 (by decide) (by omega)
  refine ⟨⟨d1, ⟨k, nx, ?_⟩, by rw [(x 15 (by decide) (by omega)).1]; exact h15, b, (d2 0 (by decide)).trans b1, (d3 0 b (by decide) b1).trans b2⟩, ⟨a3.trans l1, by rw [a2]; exact l2, by rw [a2]; exact l3, by rw [a2]; exact l4⟩, ⟨b5.trans l5, b6.trans l6⟩, ⟨c3.trans l7, c4.trans l8⟩, ⟨g3.trans l9, g4.trans l10⟩, fun j hj => by rw [b3]; exact f1 j hj, fun j hj => by rw [c1]; exact f2 j hj, fun i hi => ?_⟩
  · unfold CI
    rw [(x 12 (by decide) (by omega)).1]
    exact ci
  · obtain ⟨t1, t2, t3⟩ := f3 i hi
    obtain ⟨y1, y2, y3, y4⟩ := x (27 + i) (by omega) (by omega)
    exact ⟨by rw [g2]; exact t1, y3.trans t2, fun f hf => by rw [y1]; exact t3 f hf⟩
theorem BG.w {v : Int32} (B : BG h A γ V0 nw sc p q hw gw tv) (hv : v = gw p) : BG (sI h (A 25) p v) A γ V0 nw sc (p + 1) q hw gw tv := by
  obtain ⟨⟨c, ⟨k, nx, ci⟩, h15, b, b1, b2⟩, l1, l5, l7, l9, f1, f2, f3⟩ := B
  have F := c.2.2.1
  have x : ∀ i, 9 ≤ i → i < 27 + q → i ≠ 25 → hI (sI h (A 25) p v) (A i) = hI h (A i) := fun i h1 h2 h3 => by
    rw [sI_sA, hI_sA_ne (F.ne ⟨h1, h2⟩ ⟨by decide, by omega⟩ h3)]
  refine ⟨⟨c.sh ⟨rfl, rfl, rfl⟩, ⟨k, nx, ?_⟩, by rw [x 15 (by decide) (by omega) (by decide)]; exact h15, b, b1, (vB_fix (h2 := sI h (A 25) p v) F (c.2.2.2.1.1 0 b (by decide) b1) ⟨rfl, rfl, rfl⟩ (fun r hr => by rw [sI_sA, hI_sA_ne (hr 25 ⟨by decide, by omega⟩)])).trans b2⟩, l1, l5, l7, l9, fun j hj => by rw [x 24 (by decide) (by omega) (by decide)]; exact f1 j hj, fun j hj => ?_, fun i hi => ?_⟩
  · unfold CI
    rw [x 12 (by decide) (by omega) (by decide)]
    exact ci
  · rw [hI_sI]
    by_cases e : j = p
    · rw [if_pos ⟨rfl, e⟩, hv, e]
    · rw [if_neg (fun z => e z.2)]; exact f2 j (by omega)
  · obtain ⟨t1, t2, t3⟩ := f3 i hi
    exact ⟨t1, t2, fun f hf => by rw [x (27 + i) (by omega) (by omega) (by omega)]; exact t3 f hf⟩
theorem BG.t {t : Nat} (B : BG h A γ V0 nw sc p q hw gw tv) (e : Ext h h1) (ht : hK h t = 0) (kt : hK h1 t = 10) (vt : ∀ f, f < 15 → hI h1 t f = tv q f) : BG (sR h1 (A 26) q (some t)) (u1 A (27 + q) t) (γo h γ) V0 nw sc p (q + 1) hw gw tv := by
  have B2 := B.ext e
  have F0 := B.1.1.2.2.1
  obtain ⟨⟨c, ⟨k, nx, ci⟩, h15, b, b1, b2⟩, ⟨l1, l2, l3, l4⟩, ⟨l5, l6⟩, ⟨l7, l8⟩, ⟨l9, l10⟩, f1, f2, f3⟩ := B2
  have ne : ∀ i, Ix (27 + q) i → A i ≠ t := fun i hi z => (F0.2 i hi).1 (by rw [z]; exact ht)
  have c2 : CS h1 (u1 A (27 + q) t) (γo h γ) (27 + q + 1) := c.more (by rw [kt]; decide) (by rw [kt]; decide) (if_pos ht) ne
  have eA : ∀ i, i < 27 + q → u1 A (27 + q) t i = A i := fun i hi => u1_ne (by omega)
  have e26 : u1 A (27 + q) t 26 = A 26 := eA 26 (by omega)
  have kk : hK h1 (u1 A (27 + q) t 26) ≠ 26 := by rw [e26, l9]; decide
  obtain ⟨c3, bo, bv⟩ := c2.ref (m := 26) (k := q) (v := some t) (by decide) (by omega) kk
  rw [e26] at c3 bo bv
  have hb0 : bA h1 (u1 A (27 + q) t) 0 = some b := by
    show hR h1 (u1 A (27 + q) t 22) 2 = some b
    rw [eA 22 (by omega)]
    exact b1
  have nr : ∀ i j, 9 ≤ i → i < 27 + q → i ≠ 26 → hR (sR h1 (A 26) q (some t)) (A i) j = hR h1 (A i) j := fun i j h1 h2 h3 => by
    rw [hR_sR, if_neg (fun z => c.2.2.1.ne ⟨h1, h2⟩ ⟨by decide, by omega⟩ h3 z.1)]
  unfold BG
  rw [eA 15 (by omega), eA 22 (by omega), eA 23 (by omega), eA 24 (by omega), eA 25 (by omega), e26]
  refine ⟨⟨c3, ⟨k, nx, ?_⟩, h15, b, ?_, (bv 0 b (by decide) hb0).trans b2⟩, ⟨l1, by rw [nr 23 0 (by decide) (by omega) (by decide)]; exact l2, by rw [nr 23 1 (by decide) (by omega) (by decide)]; exact l3, by rw [nr 23 2 (by decide) (by omega) (by decide)]; exact l4⟩, ⟨l5, l6⟩, ⟨l7, l8⟩, ⟨l9, l10⟩, f1, f2, fun i hi => ?_⟩
  · unfold CI
    rw [eA 12 (by omega)]
    exact ci
  · rw [nr 22 2 (by decide) (by omega) (by decide)]; exact b1
  · by_cases ei : i = q
    · subst ei
      rw [u1_same]
      exact ⟨by rw [hR_sR, if_pos ⟨rfl, rfl⟩], kt, vt⟩
    · obtain ⟨t1, t2, t3⟩ := f3 i (by omega)
      rw [eA (27 + i) (by omega)]
      exact ⟨by rw [hR_sR, if_neg (fun z => ei z.2)]; exact t1, t2, t3⟩
theorem BG0 {lb ha wt sp : Nat} (c : CS h A γ 23) (ci : ∃ k nx, CI h A k nx) (h15 : hI h (A 15) 1 = nI 0) (hb : ∃ b, hR h (A 22) 2 = some b ∧ vB h b = V0) (e : Ext h h1) (z0 : hK h lb = 0 ∧ hK h ha = 0 ∧ hK h wt = 0 ∧ hK h sp = 0) (nd : lb ≠ ha ∧ lb ≠ wt ∧ lb ≠ sp ∧ ha ≠ wt ∧ ha ≠ sp ∧ wt ≠ sp) (k1 : hK h1 lb = 8 ∧ hR h1 lb 0 = some ha ∧ hR h1 lb 1 = some wt ∧ hR h1 lb 2 = some sp) (k2 : hK h1 ha = 20 ∧ hL h1 ha = 10) (k3 : hK h1 wt = 20 ∧ hL h1 wt = nw) (k4 : hK h1 sp = 27 ∧ hL h1 sp = sc) (k5 : ∀ j, j < 10 → hI h1 ha j = hw j) : ∃ A', BG h1 A' (γo h γ) V0 nw sc 0 0 hw gw tv ∧ A' 22 = A 22 ∧ A' 23 = lb := by
  obtain ⟨d1, d2, d3⟩ := c.ext e
  have F := c.2.2.1
  obtain ⟨z1, z2, z3, z4⟩ := z0
  obtain ⟨n1, n2, n3, n4, n5, n6⟩ := nd
  have old : ∀ a, hK h a = 0 → ∀ i, Ix 23 i → A i ≠ a := fun a ha i hi z => (F.2 i hi).1 (by rw [z]; exact ha)
  have g : ∀ a, hK h a = 0 → γo h γ a = a := fun a ha => if_pos ha
  have c1 : CS h1 (u1 A 23 lb) (γo h γ) 24 := d1.more (by rw [k1.1]; decide) (by rw [k1.1]; decide) (g lb z1) (old lb z1)
  have s1 : ∀ a, hK h a = 0 → lb ≠ a → ∀ i, Ix 24 i → u1 A 23 lb i ≠ a := fun a ha na i hi => by
    by_cases x : i = 23
    · rw [x, u1_same]; exact na
    · rw [u1_ne x]; exact old a ha i ⟨hi.1, by have := hi.2; omega⟩
  have c2 : CS h1 (u1 (u1 A 23 lb) 24 ha) (γo h γ) 25 := c1.more (by rw [k2.1]; decide) (by rw [k2.1]; decide) (g ha z2) (s1 ha z2 n1)
  have s2 : ∀ a, hK h a = 0 → lb ≠ a → ha ≠ a → ∀ i, Ix 25 i → u1 (u1 A 23 lb) 24 ha i ≠ a := fun a hz na nb i hi => by
    by_cases x : i = 24
    · rw [x, u1_same]; exact nb
    · rw [u1_ne x]; exact s1 a hz na i ⟨hi.1, by have := hi.2; omega⟩
  have c3 : CS h1 (u1 (u1 (u1 A 23 lb) 24 ha) 25 wt) (γo h γ) 26 := c2.more (by rw [k3.1]; decide) (by rw [k3.1]; decide) (g wt z3) (s2 wt z3 n2 n4)
  have s3 : ∀ a, hK h a = 0 → lb ≠ a → ha ≠ a → wt ≠ a → ∀ i, Ix 26 i → u1 (u1 (u1 A 23 lb) 24 ha) 25 wt i ≠ a := fun a hz na nb nc i hi => by
    by_cases x : i = 25
    · rw [x, u1_same]; exact nc
    · rw [u1_ne x]; exact s2 a hz na nb i ⟨hi.1, by have := hi.2; omega⟩
  have c4 : CS h1 (u1 (u1 (u1 (u1 A 23 lb) 24 ha) 25 wt) 26 sp) (γo h γ) 27 := c3.more (by rw [k4.1]; decide) (by rw [k4.1]; decide) (g sp z4) (s3 sp z4 n3 n5 n6)
  obtain ⟨k, nx, ci⟩ := ci
  obtain ⟨b, b1, b2⟩ := hb
  have eA : ∀ i, i < 23 → u1 (u1 (u1 (u1 A 23 lb) 24 ha) 25 wt) 26 sp i = A i := fun i hi => by rw [u1_ne (by omega), u1_ne (by omega), u1_ne (by omega), u1_ne (by omega)]
  have e23 : u1 (u1 (u1 (u1 A 23 lb) 24 ha) 25 wt) 26 sp 23 = lb := by rw [u1_ne (by decide), u1_ne (by decide), u1_ne (by decide), u1_same]
  have e24 : u1 (u1 (u1 (u1 A 23 lb) 24 ha) 25 wt) 26 sp 24 = ha := by rw [u1_ne (by decide), u1_ne (by decide), u1_same]
  have e25 : u1 (u1 (u1 (u1 A 23 lb) 24 ha) 25 wt) 26 sp 25 = wt := by rw [u1_ne (by decide), u1_same]
  have e26 : u1 (u1 (u1 (u1 A 23 lb) 24 ha) 25 wt) 26 sp 26 = sp := u1_same _ _ _
  have xx : ∀ i, 9 ≤ i → i < 23 → hI h1 (A i) = hI h (A i) := fun i p1 p2 => (e (A i) (F.2 i ⟨p1, p2⟩).1).1
  refine ⟨_, ⟨⟨c4, ⟨k, nx, ?_⟩, ?_, b, ?_, (d3 0 b (by decide) b1).trans b2⟩, ?_, ?_, ?_, ?_, ?_, fun j hj => absurd hj (Nat.not_lt_zero j), fun i hi => absurd hi (Nat.not_lt_zero i)⟩, eA 22 (by decide), e23⟩
  · unfold CI
    rw [eA 12 (by decide), xx 12 (by decide) (by decide)]
    exact ci
  · rw [eA 15 (by decide), xx 15 (by decide) (by decide)]; exact h15
  · rw [eA 22 (by decide)]; exact (d2 0 (by decide)).trans b1
  · rw [e23, e24, e25, e26]; exact k1
  · rw [e24]; exact k2
  · rw [e25]; exact k3
  · rw [e26]; exact k4
  · rw [e24]; exact k5
end
