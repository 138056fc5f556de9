/-! THE CLASS'S CELLS (numbers 9 to 22) AND THE LAW'S (23: its Bureau, 24: has, 25: weights, 26: shops, from 27: its twins) -/
theorem Bc.dis {h : Hp} {γ : Nat → Nat} {b c : Nat} (B : Bc h γ b) (C : Bc h γ c) (n : b ≠ c) : Dis h b c := by
  obtain ⟨b0, b1, b2, b3, b4⟩ := B
  obtain ⟨c0, c1, c2, c3, c4⟩ := C
  refine ⟨n, fun e => n ?_, fun i j hi hj e => n ?_⟩
  · rw [← b2, e]; exact c2
  · rw [← b4 i hi, e]; exact c4 j hj
theorem vB_dis {h : Hp} {b c : Nat} {F : Bu} (B : BuOk h b) (C : BuOk h c) (d : Dis h b c) : vB (wB h b F) c = vB h c := by
  obtain ⟨f1, f2, f3⟩ := d.fo B C
  show (hI (wB h b F) c, hI (wB h b F) (rA h c 12), fun i => if i < 8 then hI (wB h b F) (sh h c i) else fun _ => 0) = (hI h c, hI h (rA h c 12), fun i => if i < 8 then hI h (sh h c i) else fun _ => 0)
  rw [hI_fo f1, hI_fo f2]
  have e : (fun i => if i < 8 then hI (wB h b F) (sh h c i) else fun _ => (0 : Int32)) = fun i => if i < 8 then hI h (sh h c i) else fun _ => 0 := by
    funext i
    by_cases k : i < 8
    · rw [if_pos k, if_pos k, hI_fo (f3 i k)]
    · rw [if_neg k, if_neg k]
  rw [e]
theorem vB_cong {h h2 : Hp} {b : Nat} (e1 : h2.2 = h.2) (e2 : hI h2 b = hI h b) (e3 : hI h2 (rA h b 12) = hI h (rA h b 12)) (e4 : ∀ i, i < 8 → hI h2 (sh h b i) = hI h (sh h b i)) : vB h2 b = vB h b := by
  obtain ⟨i2, r2⟩ := h2
  obtain ⟨i1, r1⟩ := h
  have e1 : r2 = r1 := e1
  subst e1
  show (i2 b, i2 (rA (i1, r2) b 12), fun i => if i < 8 then i2 (sh (i1, r2) b i) else fun _ => 0) = (i1 b, i1 (rA (i1, r2) b 12), fun i => if i < 8 then i1 (sh (i1, r2) b i) else fun _ => 0)
  have e2 : i2 b = i1 b := e2
  have e3 : i2 (rA (i1, r2) b 12) = i1 (rA (i1, r2) b 12) := e3
  have e4 : ∀ i, i < 8 → i2 (sh (i1, r2) b i) = i1 (sh (i1, r2) b i) := e4
  rw [e2, e3]
  have e : (fun i => if i < 8 then i2 (sh (i1, r2) b i) else fun _ => (0 : Int32)) = fun i => if i < 8 then i1 (sh (i1, r2) b i) else fun _ => 0 := by
    funext i
    by_cases k : i < 8
    · rw [if_pos k, if_pos k, e4 i k]
    · rw [if_neg k, if_neg k]
  rw [e]
/-- the class's bureaus: 0 the present one, 1 to 8 the past's, 9 and 10 the named ones, 11 the trial one -/
def bA (h : Hp) (A : Nat → Nat) (t : Nat) : Option Nat := if t = 0 then hR h (A 22) 2 else if t ≤ 8 then hR h (A 13) (t - 1) else if t ≤ 10 then hR h (A 11) (t - 9) else hR h (A 22) 3
def Ix (n i : Nat) : Prop := 9 ≤ i ∧ i < n
def Fx (h : Hp) (A γ : Nat → Nat) (n : Nat) : Prop := (∀ i j, Ix n i → Ix n j → A i = A j → i = j) ∧ ∀ i, Ix n i → hK h (A i) ≠ 0 ∧ hK h (A i) ≠ 5 ∧ γ (A i) = A i
def CB (h : Hp) (A γ : Nat → Nat) : Prop := (∀ t b, t < 12 → bA h A t = some b → Bc h γ b) ∧ ∀ t t' b, t < 12 → t' < 12 → bA h A t = some b → bA h A t' = some b → t = t'
def CS (h : Hp) (A γ : Nat → Nat) (n : Nat) : Prop := 23 ≤ n ∧ ShC h A ∧ Fx h A γ n ∧ CB h A γ ∧ (∃ b, bA h A 11 = some b) ∧ ∃ b, bA h A 0 = some b
def CI (h : Hp) (A : Nat → Nat) (k nx : Nat) : Prop := (hI h (A 12) 1 = nI k ∧ hI h (A 12) 2 = nI nx) ∧ k ≤ 8 ∧ nx < 8
theorem Fx.ne {h : Hp} {A γ : Nat → Nat} {n : Nat} (F : Fx h A γ n) {i j : Nat} (hi : Ix n i) (hj : Ix n j) (ne : i ≠ j) : A i ≠ A j := fun e => ne (F.1 i j hi hj e)
theorem CS.ix {h : Hp} {A γ : Nat → Nat} {n : Nat} (c : CS h A γ n) {i : Nat} (h1 : 9 ≤ i) (h2 : i < 23) : Ix n i := ⟨h1, Nat.lt_of_lt_of_le h2 c.1⟩
theorem Bc.ne {h : Hp} {A γ : Nat → Nat} {b i n : Nat} (B : Bc h γ b) (F : Fx h A γ n) (hi : Ix n i) : A i ≠ b ∧ A i ≠ rA h b 12 ∧ ∀ k, k < 8 → A i ≠ sh h b k := by
  obtain ⟨f1, f2, f3⟩ := F.2 i hi
  obtain ⟨b0, b1, b2, b3, b4⟩ := B
  have n : A i ≠ b := fun e => f2 (by rw [e]; exact b0.1)
  refine ⟨n, fun e => n ?_, fun k hk e => n ?_⟩
  · rw [← f3, e]; exact b2
  · rw [← f3, e]; exact b4 k hk
theorem Bc.fo {h : Hp} {A γ : Nat → Nat} {b i n : Nat} (B : Bc h γ b) (F : Fx h A γ n) (hi : Ix n i) : Fo h b (A i) := B.ne F hi
/-- all but ints and longs the same -/
def Sh2 (h h2 : Hp) : Prop := hR h2 = hR h ∧ hK h2 = hK h ∧ hL h2 = hL h
theorem CS.sh {h h2 : Hp} {A γ : Nat → Nat} {n : Nat} (c : CS h A γ n) (e : Sh2 h h2) : CS h2 A γ n := by
  obtain ⟨i2, r2, j2, k2, l2⟩ := h2
  obtain ⟨i1, r1, j1, k1, l1⟩ := h
  obtain ⟨e1, e2, e3⟩ := e
  have e1 : r2 = r1 := e1
  have e2 : k2 = k1 := e2
  have e3 : l2 = l1 := e3
  subst e1
  subst e2
  subst e3
  exact c
theorem vB_fix {h h2 : Hp} {A γ : Nat → Nat} {b n : Nat} (F : Fx h A γ n) (B : Bc h γ b) (e : Sh2 h h2) (hq : ∀ q, (∀ i, Ix n i → q ≠ A i) → hI h2 q = hI h q) : vB h2 b = vB h b := by
  have nn : ∀ i, Ix n i → _ := fun i hi => B.ne F hi
  have h1 := hq b (fun i hi z => (nn i hi).1 z.symm)
  have h2' := hq (rA h b 12) (fun i hi z => (nn i hi).2.1 z.symm)
  have h3 : ∀ k, k < 8 → hI h2 (sh h b k) = hI h (sh h b k) := fun k hk => hq (sh h b k) (fun i hi z => (nn i hi).2.2 k hk z.symm)
  obtain ⟨i2, r2, j2, k2, l2⟩ := h2
  obtain ⟨i1, r1, j1, k1, l1⟩ := h
  obtain ⟨e1, e2, e3⟩ := e
  have e1 : r2 = r1 := e1
  have e2 : k2 = k1 := e2
  have e3 : l2 = l1 := e3
  subst e1
  subst e2
  subst e3
  exact vB_cong (h := (i1, r2, j2, k2, l2)) (h2 := (i2, r2, j2, k2, l2)) rfl h1 h2' h3
theorem wB_fix {h : Hp} {A γ : Nat → Nat} {n t b : Nat} {F : Bu} (c : CS h A γ n) (ht : t < 12) (hb : bA h A t = some b) {i : Nat} (hi : Ix n i) : hI (wB h b F) (A i) = hI h (A i) := hI_fo ((c.2.2.2.1.1 t b ht hb).fo c.2.2.1 hi)
theorem wB_other {h : Hp} {A γ : Nat → Nat} {n t u b d : Nat} {F : Bu} (c : CS h A γ n) (ht : t < 12) (hb : bA h A t = some b) (hu : u < 12) (hd : bA h A u = some d) (ne : u ≠ t) : vB (wB h b F) d = vB h d ∧ Dis h b d := by
  have B := c.2.2.2.1.1 t b ht hb
  have D := c.2.2.2.1.1 u d hu hd
  have e : b ≠ d := fun z => ne (c.2.2.2.1.2 u t d hu ht hd (by rw [← z]; exact hb))
  exact ⟨vB_dis B.1 D.1 (B.dis D e), B.dis D e⟩
theorem ShC.kp {h h2 : Hp} {A γ : Nat → Nat} {n : Nat} (c : CS h A γ n) (k : Kp (A 13) h h2) : ShC h2 A := by
  have F := c.2.2.1
  have g : ∀ i, 9 ≤ i → i < 23 → i ≠ 13 → i ≠ 11 → A i ≠ A 13 := fun i h1 hi h2 h3 => F.ne (c.ix h1 hi) (c.ix (by decide) (by decide)) h2
  obtain ⟨⟨c1, c2, c3, c4, c5, c6⟩, p, i, s, y, ⟨n1, n2⟩, b⟩ := c.2.1
  have r := (k (A 22) (by omega)).2.1 (g 22 (by decide) (by decide) (by decide) (by decide))
  exact ⟨⟨(k (A 22) (by omega)).2.2.1.trans c1, by rw [r]; exact c2, by rw [r]; exact c3, by rw [r]; exact c4, by rw [r]; exact c5, by rw [r]; exact c6⟩, p.kp k (g 14 (by decide) (by decide) (by decide) (by decide)), i.kp k (g 15 (by decide) (by decide) (by decide) (by decide)), s.kp k (g 17 (by decide) (by decide) (by decide) (by decide)), y.kp k (g 12 (by decide) (by decide) (by decide) (by decide)), ⟨(k (A 11) (by omega)).2.2.1.trans n1, (k (A 11) (by omega)).2.2.2.trans n2⟩, b.kp k (g 9 (by decide) (by decide) (by decide) (by decide))⟩
theorem bA_pp {h : Hp} {A : Nat → Nat} {k : Nat} (hk : k < 8) : bA h A (1 + k) = hR h (A 13) k := by
  unfold bA
  rw [if_neg (by omega), if_pos (by omega), show 1 + k - 1 = k by omega]
theorem bA_0 {h : Hp} {A : Nat → Nat} : bA h A 0 = hR h (A 22) 2 := rfl
theorem bA_11 {h : Hp} {A : Nat → Nat} : bA h A 11 = hR h (A 22) 3 := rfl
theorem CS.slot {h h2 : Hp} {A γ : Nat → Nat} {n k pk : Nat} (c : CS h A γ n) (hk : k < 8) (sl : Slot h (A 13) k pk h2) : ∃ γ', CS h2 A γ' n ∧ bA h2 A (1 + k) = some pk ∧ (∀ u, u < 12 → u ≠ 1 + k → bA h2 A u = bA h A u) ∧ (∀ u b, u < 12 → bA h A u = some b → vB h2 b = vB h b) ∧ Kp (A 13) h h2 ∧ hR h2 (A 22) = hR h (A 22) := by
  have ht : 1 + k < 12 ∧ 1 + k ≠ 0 ∧ 1 + k ≠ 11 := by omega
  have hb : bA h A (1 + k) = hR h (A 13) k := bA_pp hk
  obtain ⟨c0, c1, c3, c4, c5, c6⟩ := id c
  have i13 : Ix n 13 := c.ix (by decide) (by decide)
  have i22 : Ix n 22 := c.ix (by decide) (by decide)
  have i11 : Ix n 11 := c.ix (by decide) (by decide)
  have kn : hK h (A 13) = 25 := c1.2.2.2.2.1.2.2.1
  rcases sl with ⟨rfl, e⟩ | ⟨e0, h', nb, rfl⟩
  · exact ⟨γ, c, by rw [hb]; exact e, fun _ _ _ => rfl, fun _ _ _ _ => rfl, Kp.r, rfl⟩
  · obtain ⟨x1, ok, ⟨f1, f2, f3, f4⟩, -⟩ := id nb
    have K : Kp (A 13) h (sR h' (A 13) k (some pk)) := (Kp.of _ x1).tr (Kp.sR _ _ _ _)
    have kn' : hK h' (A 13) = 25 := (x1 _ (by omega)).2.2.2.1.trans kn
    have nx : A 22 ≠ A 13 := c3.ne i22 i13 (by decide)
    have rx : hR (sR h' (A 13) k (some pk)) (A 22) = hR h (A 22) := (K (A 22) (c3.2 22 i22).1).2.1 nx
    have rA : ∀ i j, Ix n i → (i = 13 → j ≠ k) → hR (sR h' (A 13) k (some pk)) (A i) j = hR h (A i) j := fun i j hi hj => by
      rw [hR_sR, (x1 (A i) (c3.2 i hi).1).2.1]
      rw [if_neg (fun z => by
        have := c3.1 i 13 hi i13 z.1
        exact hj this z.2)]
    have bt : bA (sR h' (A 13) k (some pk)) A (1 + k) = some pk := by
      rw [bA_pp hk, hR_sR, if_pos ⟨rfl, rfl⟩]
    have bo : ∀ u, u < 12 → u ≠ 1 + k → bA (sR h' (A 13) k (some pk)) A u = bA h A u := fun u hu ne => by
      unfold bA
      split
      · exact rA 22 2 i22 (fun z => absurd z (by decide))
      · split
        · exact rA 13 (u - 1) i13 (fun _ => by omega)
        · split
          · exact rA 11 (u - 9) i11 (fun z => absurd z (by decide))
          · exact rA 22 3 i22 (fun z => absurd z (by decide))
    have gl : ∀ q, hK h q ≠ 0 → γb h γ pk q = γ q := fun q hq => if_neg hq
    refine ⟨γb h γ pk, ⟨c0, ShC.kp c K, ⟨c3.1, fun i hi => ?_⟩, ⟨fun u b hu hub => ?_, fun u v b hu hv hub hvb => ?_⟩, ?_, ?_⟩, bt, bo, fun u b hu hub => ((c4.1 u b hu hub).kq (γ' := γb h γ pk) K (by omega) (by omega) gl).2, K, rx⟩
    · obtain ⟨g1, g2, g3⟩ := c3.2 i hi
      rw [(K _ g1).2.2.1, gl _ g1]
      exact ⟨g1, g2, g3⟩
    · by_cases e : u = 1 + k
      · rw [e, bt] at hub
        cases hub
        obtain ⟨d0, d1, d2, d3, d4⟩ := ok.kq (Kp.sR (A 13) h' k (some pk)) (by omega) (by omega)
        exact ⟨d0, if_pos f1, by rw [d1]; exact if_pos f2, by rw [d2]; exact if_pos f3, fun i hi => by rw [d3 i hi]; exact if_pos (f4 i hi)⟩
      · rw [bo u hu e] at hub
        exact ((c4.1 u b hu hub).kq K (by omega) (by omega) gl).1
    · by_cases e : u = 1 + k
      · by_cases e' : v = 1 + k
        · rw [e, e']
        · exfalso
          rw [e, bt] at hub
          cases hub
          rw [bo v hv e'] at hvb
          have := (c4.1 v pk hv hvb).1.1
          omega
      · by_cases e' : v = 1 + k
        · exfalso
          rw [e', bt] at hvb
          cases hvb
          rw [bo u hu e] at hub
          have := (c4.1 u pk hu hub).1.1
          omega
        · rw [bo u hu e] at hub
          rw [bo v hv e'] at hvb
          exact c4.2 u v b hu hv hub hvb
    · rw [bo 11 (by decide) (by omega)]
      exact c5
    · rw [bo 0 (by decide) (by omega)]
      exact c6
/-- new cells of their own -/
theorem CS.ext {h h2 : Hp} {A γ : Nat → Nat} {n : Nat} (c : CS h A γ n) (e : Ext h h2) : CS h2 A (γo h γ) n ∧ (∀ u, u < 12 → bA h2 A u = bA h A u) ∧ ∀ u b, u < 12 → bA h A u = some b → vB h2 b = vB h b := by
  obtain ⟨c0, c1, c3, c4, c5, c6⟩ := id c
  have kn : hK h (A 13) = 25 := c1.2.2.2.2.1.2.2.1
  have i13 : Ix n 13 := c.ix (by decide) (by decide)
  have i22 : Ix n 22 := c.ix (by decide) (by decide)
  have i11 : Ix n 11 := c.ix (by decide) (by decide)
  have K : Kp (A 13) h h2 := Kp.of _ e
  have gl : ∀ q, hK h q ≠ 0 → γo h γ q = γ q := fun q hq => if_neg hq
  have rr : ∀ i, Ix n i → hR h2 (A i) = hR h (A i) := fun i hi => (e (A i) (c3.2 i hi).1).2.1
  have bo : ∀ u, u < 12 → bA h2 A u = bA h A u := fun u hu => by
    unfold bA
    rw [rr 22 i22, rr 13 i13, rr 11 i11]
  refine ⟨⟨c0, ShC.kp c K, ⟨c3.1, fun i hi => ?_⟩, ⟨fun u b hu hub => ?_, fun u v b hu hv hub hvb => ?_⟩, by rw [bo 11 (by decide)]; exact c5, by rw [bo 0 (by decide)]; exact c6⟩, bo, fun u b hu hub => ((c4.1 u b hu hub).kq (γ' := γo h γ) K (by omega) (by omega) gl).2⟩
  · obtain ⟨g1, g2, g3⟩ := c3.2 i hi
    rw [(K _ g1).2.2.1, gl _ g1]
    exact ⟨g1, g2, g3⟩
  · rw [bo u hu] at hub
    exact ((c4.1 u b hu hub).kq K (by omega) (by omega) gl).1
  · rw [bo u hu] at hub
    rw [bo v hv] at hvb
    exact c4.2 u v b hu hv hub hvb
/-- one more fixed cell -/
theorem CS.add {h h2 : Hp} {A γ : Nat → Nat} {n a : Nat} (c : CS h A γ n) (e : Ext h h2) (ha : hK h a = 0) (hk : hK h2 a ≠ 0) (h5 : hK h2 a ≠ 5) : CS h2 (u1 A n a) (γo h γ) (n + 1) ∧ (∀ u, u < 12 → bA h2 (u1 A n a) u = bA h A u) ∧ ∀ u b, u < 12 → bA h A u = some b → vB h2 b = vB h b := by
  obtain ⟨d, bo, v⟩ := c.ext e
  have c3 := c.2.2.1
  have n23 := c.1
  have eA : ∀ i, i < 23 → u1 A n a i = A i := fun i hi => u1_ne (by omega)
  have ne : ∀ i, Ix n i → A i ≠ a := fun i hi z => (c3.2 i hi).1 (by rw [z]; exact ha)
  have eB : ∀ u, bA h2 (u1 A n a) u = bA h2 A u := fun u => by
    unfold bA
    rw [eA 22 (by decide), eA 13 (by decide), eA 11 (by decide)]
  have eS : ShC h2 (u1 A n a) := by
    have z := d.2.1
    unfold ShC
    rw [eA 22 (by decide), eA 14 (by decide), eA 15 (by decide), eA 12 (by decide), eA 11 (by decide), eA 9 (by decide), eA 21 (by decide), eA 17 (by decide), eA 16 (by decide), eA 18 (by decide), eA 19 (by decide), eA 20 (by decide), eA 13 (by decide), eA 10 (by decide)]
    exact z
  refine ⟨⟨by omega, eS, ⟨fun i j hi hj z => ?_, fun i hi => ?_⟩, ⟨fun u b hu hub => ?_, fun u v b hu hv hub hvb => ?_⟩, by rw [eB]; exact d.2.2.2.2.1, by rw [eB]; exact d.2.2.2.2.2⟩, fun u hu => by rw [eB]; exact bo u hu, v⟩
  · by_cases e1 : i = n
    · by_cases e2 : j = n
      · omega
      · rw [e1, u1_same, u1_ne e2] at z
        exact absurd z.symm (ne j ⟨hj.1, by have := hj.2; omega⟩)
    · by_cases e2 : j = n
      · rw [e2, u1_same, u1_ne e1] at z
        exact absurd z (ne i ⟨hi.1, by have := hi.2; omega⟩)
      · rw [u1_ne e1, u1_ne e2] at z
        exact c3.1 i j ⟨hi.1, by have := hi.2; omega⟩ ⟨hj.1, by have := hj.2; omega⟩ z
  · by_cases e1 : i = n
    · rw [e1, u1_same]
      exact ⟨hk, h5, if_pos ha⟩
    · rw [u1_ne e1]
      exact d.2.2.1.2 i ⟨hi.1, by have := hi.2; omega⟩
  · rw [eB] at hub
    exact d.2.2.2.1.1 u b hu hub
  · rw [eB] at hub hvb
    exact d.2.2.2.1.2 u v b hu hv hub hvb
theorem CS.less {h : Hp} {A γ : Nat → Nat} {n m : Nat} (c : CS h A γ n) (h1 : 23 ≤ m) (h2 : m ≤ n) : CS h A γ m := ⟨h1, c.2.1, ⟨fun i j hi hj => c.2.2.1.1 i j ⟨hi.1, Nat.lt_of_lt_of_le hi.2 h2⟩ ⟨hj.1, Nat.lt_of_lt_of_le hj.2 h2⟩, fun i hi => c.2.2.1.2 i ⟨hi.1, Nat.lt_of_lt_of_le hi.2 h2⟩⟩, c.2.2.2⟩
/-- what the history keeps -/
def QR (h : Hp) (A : Nat → Nat) (k nx nw sc : Nat) (B : Bu) (h9 : Hp) : Prop := ∃ pk h2, Slot h (A 13) nx pk h2 ∧ h9 = sA (wB h2 pk (P_copy nw sc (vB h2 pk) B)) (A 12) (hyR (hI h (A 12)) nx k)
theorem QR_ct {E : En} {h : Hp} {A γ : Nat → Nat} {n k nx nw sc ni U b : Nat} {B : Bu} (c : CS h A γ n) (ci : CI h A k nx) (hb : hR h (A 22) 2 = some b) (vb : vB h b = B) (hG : Gd B nw sc ni U) : CT E m_HI_remember [.ref (A 12), .ref b] h 11 156 (fun v h9 => v = none ∧ QR h A k nx nw sc B h9) noX := by
  have n8 : nx < 8 := ci.2.2
  have hb0 : bA h A 0 = some b := hb
  have Bb := c.2.2.2.1.1 0 b (by decide) hb0
  have k := cr_HI_remember (E := E) (h := h) (hy := (A 12)) (pp := (A 13)) (b := b) (nx := nx) (cnt := k) (nw := nw) (sc := sc) (ni := ni) (U := U) c.2.1.2.2.2.2.1 ci.1.1 ci.1.2 n8 ci.2.1 Bb.1 (by rw [vb]; exact hG) (fun pk hp => by
    have hpk : bA h A (1 + nx) = some pk := by rw [bA_pp n8]; exact hp
    have P := c.2.2.2.1.1 (1 + nx) pk (by omega) hpk
    exact ⟨P.1, P.dis Bb (fun z => absurd (c.2.2.2.1.2 (1 + nx) 0 b (by omega) (by decide) (by rw [← z]; exact hpk) hb0) (by omega))⟩)
  rw [vb] at k
  exact k
/-- what stays of the cells that are there: all but the past's array and the ints -/
def Kr (a : Nat) (h h9 : Hp) : Prop := ∀ q, hK h q ≠ 0 → (q ≠ a → hR h9 q = hR h q) ∧ hK h9 q = hK h q ∧ hL h9 q = hL h q
theorem QR_use {h h9 : Hp} {A γ : Nat → Nat} {n k nx nw sc : Nat} {B : Bu} (c : CS h A γ n) (ci : CI h A k nx) (q : QR h A k nx nw sc B h9) : ∃ γ', CS h9 A γ' n ∧ (∃ k' nx', CI h9 A k' nx') ∧ (∀ i, Ix n i → i ≠ 12 → hI h9 (A i) = hI h (A i)) ∧ Kr (A 13) h h9 ∧ hR h9 (A 22) = hR h (A 22) ∧ hK h9 (A 22) = hK h (A 22) ∧ ∀ u b, u < 12 → u ≠ 1 + nx → bA h A u = some b → bA h9 A u = some b ∧ vB h9 b = vB h b ∧ ∀ i, i < 8 → sh h9 b i = sh h b i := by
  obtain ⟨pk, h2, sl, rfl⟩ := q
  have n8 : nx < 8 := ci.2.2
  obtain ⟨γ', c2, b1, b2, b4, K, b6⟩ := c.slot n8 sl
  have kpp : hK h (A 13) = 25 := c.2.1.2.2.2.2.1.2.2.1
  have i12 : Ix n 12 := c.ix (by decide) (by decide)
  generalize P_copy nw sc (vB h2 pk) B = X
  have hy9 : hI (sA (wB h2 pk X) (A 12) (hyR (hI h (A 12)) nx k)) (A 12) = hyR (hI h (A 12)) nx k := if_pos rfl
  have cw : CS (wB h2 pk X) A γ' n := c2.sh ⟨rfl, rfl, rfl⟩
  refine ⟨γ', cw.sh ⟨rfl, rfl, rfl⟩, ⟨if k < 8 then k + 1 else k, if nx + 1 < 8 then nx + 1 else 0, ⟨?_, ?_⟩, by have := ci.2.1; split <;> omega, by split <;> omega⟩, fun i hi hn => ?_, fun q hq => ⟨(K q hq).2.1, (K q hq).2.2⟩, b6, (K (A 22) (by rw [c.2.1.1.1]; decide)).2.2.1, fun u b hu hn hub => ?_⟩
  · rw [hy9]
    unfold hyR
    by_cases c8 : k < 8
    · rw [if_pos c8, if_pos c8, u1_same]
    · rw [if_neg c8, if_neg c8, u1_ne (by decide), ci.1.1]
  · rw [hy9]
    unfold hyR
    split
    · rw [u1_ne (by decide), u1_same]
    · rw [u1_same]
  · show (if A i = (A 12) then _ else hI (wB h2 pk X) (A i)) = _
    rw [if_neg (c.2.2.1.ne hi i12 hn), wB_fix c2 (by omega) b1 hi]
    exact (K _ (c.2.2.1.2 i hi).1).1
  · have e := b2 u hu hn
    have hub2 : bA h2 A u = some b := e.trans hub
    refine ⟨hub2, ?_, ?_⟩
    · have v1 : vB (wB h2 pk X) b = vB h2 b := (wB_other c2 (by omega) b1 hu hub2 hn).1
      have B9 := cw.2.2.2.1.1 u b hu hub2
      exact (vB_fix cw.2.2.1 B9 (h2 := sA (wB h2 pk X) (A 12) (hyR (hI h (A 12)) nx k)) ⟨rfl, rfl, rfl⟩ (fun q hq => if_neg (hq 12 i12))).trans (v1.trans (b4 u b hu hub))
    · exact ((c.2.2.2.1.1 u b hu hub).1.kp K kpp).2.2.1
theorem QR_Kx {h h9 : Hp} {A γ : Nat → Nat} {n k nx nw sc b : Nat} {B : Bu} (c : CS h A γ n) (ci : CI h A k nx) (hb : hR h (A 22) 2 = some b) (vb : vB h b = B) (q : QR h A k nx nw sc B h9) : Kx h h9 (A 22) b B := by
  obtain ⟨γ', c1, -, c3, c4, c5, c6, c7⟩ := QR_use c ci q
  obtain ⟨d1, d2, d3⟩ := c7 0 b (by decide) (by omega) hb
  exact ⟨(c1.2.2.2.1.1 0 b (by decide) d1).1, d2.trans vb, d3, c5, c6⟩
