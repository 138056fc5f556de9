/-! THE LAW'S INVARIANT -/
abbrev Bd : Type := Nat × Nat × Nat × Bu
abbrev Sv : Type := (Nat → Bd) × (Nat × Nat) × (Nat → Bool) × ((Nat → Int32) × Nat × Int32 × Int32) × List Int32
def sD (s : Sv) : Nat → Bd := s.1
def sO (s : Sv) : Nat := s.2.1.1
def sK (s : Sv) : Nat := s.2.1.2
def sV (s : Sv) : Nat → Bool := s.2.2.1
def sT (s : Sv) : Nat → Int32 := s.2.2.2.1.1
def sN (s : Sv) : Nat := s.2.2.2.1.2.1
def sE (s : Sv) : Int32 := s.2.2.2.1.2.2.1
def sP (s : Sv) : Int32 := s.2.2.2.1.2.2.2
def sX (s : Sv) : List Int32 := s.2.2.2.2
/-- the blocks that hold something -/
def Vt (s : Sv) (t : Nat) : Prop := t = 0 ∨ (∃ j, j < sK s ∧ t = 1 + (sO s + j) % 8) ∨ ∃ i, i < 2 ∧ t = 9 + i ∧ sV s i = true
/-- the class's bureau that stands for a block -/
def bA (h : Hp) (A : Nat → Nat) (t : Nat) : Option Nat := if t = 0 then hR h (A 22) 2 else if t ≤ 8 then hR h (A 13) (t - 1) else if t ≤ 10 then hR h (A 11) (t - 9) else hR h (A 22) 3
def ShM (h : Hp) (A : Nat → Nat) : Prop := MpOk h (A 8) (A 7) (A 5) (A 4) (A 3) (A 1) ∧ MuOk h (A 8) (A 2) ∧ (hR h (A 8) 3 = some (A 6) ∧ hK h (A 6) = 22 ∧ hL h (A 6) = 2) ∧ hK h (A 0) = 24 ∧ hL h (A 0) = 1
def Fx (h : Hp) (A γ : Nat → Nat) : Prop := (∀ i j, i < 23 → j < 23 → A i = A j → i = j) ∧ ∀ i, i < 23 → hK h (A i) ≠ 0 ∧ hK h (A i) ≠ 5 ∧ γ (A i) = A i
def CB (h : Hp) (A γ : Nat → Nat) : Prop := (∀ t b, t < 12 → bA h A t = some b → Bc h γ b) ∧ ∀ t t' b, t < 12 → t' < 12 → bA h A t = some b → bA h A t' = some b → t = t'
def CS (h : Hp) (A γ : Nat → Nat) (s : Sv) : Prop := ShC h A ∧ ShM h A ∧ Fx h A γ ∧ CB h A γ ∧ (∃ b, bA h A 11 = some b) ∧ ∀ t, t ≤ 10 → Vt s t → ∃ b, bA h A t = some b ∧ vB h b = (sD s t).2.2.2
def NS (h : Hp) (A : Nat → Nat) (s : Sv) : Prop := ∀ i, i < 2 → sV s i = false → hR h (A 11) i = none
def CI (h : Hp) (A : Nat → Nat) (s : Sv) : Prop := (hI h (A 12) 1 = nI (sK s) ∧ hI h (A 12) 2 = nI ((sO s + sK s) % 8)) ∧ (hI h (A 15) 1 = nI (sN s) ∧ ∀ j, j < sN s → hI h (A 16) j = sT s j) ∧ (hI h (A 14) 4 = sE s ∧ hI h (A 14) 5 = sP s) ∧ (hI h (A 9) 1 = 0 ∧ hI h (A 9) 2 = nI (sX s).length ∧ ∀ j, j < (sX s).length → hI h (A 10) j = (sX s).getD j 0)
/-- block t of the model's row is the bureau d -/
def Mir (G : Nat → Int32) (t : Nat) (d : Bd) : Prop := (∀ q, q < 140 → enc d.1 d.2.1 d.2.2.2 (fun j => G (j + 140 * t)) q = G (q + 140 * t)) ∧ G (12 + 140 * t) = P_money d.2.2.2.2.2 d.2.1
def ME (h : Hp) (A : Nat → Nat) (s : Sv) : Prop := (hI h (A 8) 1 = nI (sO s) ∧ hI h (A 8) 2 = nI (sK s) ∧ hI h (A 8) 5 = nI (sN s) ∧ hI h (A 8) 6 = sE s ∧ hI h (A 8) 7 = sP s ∧ hI h (A 8) 16 = nI (sX s).length) ∧ (∀ j, j < sN s → hI h (A 5) j = sT s j) ∧ (∀ j, j < (sX s).length → hI h (A 2) j = (sX s).getD j 0) ∧ (∀ i, i < 2 → hI h (A 6) i = bI (sV s i)) ∧ hI h (A 1) = wdR ∧ ∀ t, t ≤ 10 → Vt s t → Mir (hI h (A 7)) t (sD s t)
def SP (s : Sv) (i : Nat) : Prop := (sO s < 8 ∧ sK s ≤ 8 ∧ sN s ≤ 500) ∧ ((sX s).length ≤ 14 ∧ ∀ b, b ∈ sX s → ∃ k, k < 128 ∧ b = nI k) ∧ ∃ U, U + 26 * sN s ≤ 520 * i ∧ ∀ t, t ≤ 10 → Vt s t → 0 < (sD s t).1 ∧ Gd (sD s t).2.2.2 (sD s t).1 (sD s t).2.1 (sD s t).2.2.1 U ∧ Pb U (sD s t).2.2.2 (sD s t).2.1
def LI (h : Hp) (A γ : Nat → Nat) (s : Sv) (i : Nat) : Prop := CS h A γ s ∧ NS h A s ∧ CI h A s ∧ ME h A s ∧ SP s i
theorem Fx.ne {h : Hp} {A γ : Nat → Nat} (F : Fx h A γ) {i j : Nat} (hi : i < 23) (hj : j < 23) (n : i ≠ j) : A i ≠ A j := fun e => n (F.1 i j hi hj e)
theorem SP.mono {s : Sv} {i j : Nat} (h : SP s i) (hj : i ≤ j) : SP s j := by
  obtain ⟨a, b, U, c, d⟩ := h
  exact ⟨a, b, U, by omega, d⟩
theorem LI.mono {h : Hp} {A γ : Nat → Nat} {s : Sv} {i j : Nat} (l : LI h A γ s i) (hj : i ≤ j) : LI h A γ s j := ⟨l.1, l.2.1, l.2.2.1, l.2.2.2.1, l.2.2.2.2.mono hj⟩
/-! what a bureau owns is no fixed cell -/
theorem Bc.ne {h : Hp} {A γ : Nat → Nat} {b i : Nat} (B : Bc h γ b) (F : Fx h A γ) (hi : i < 23) : A i ≠ b ∧ A i ≠ rA h b 12 ∧ ∀ k, k < 8 → A i ≠ sh h b k := by
  obtain ⟨f1, f2, f3⟩ := F.2 i hi
  obtain ⟨b0, b1, b2, b3, b4⟩ := B
  have n : A i ≠ b := fun e => f2 (by rw [e]; exact b0.1)
  refine ⟨n, fun e => n ?_, fun k hk e => n ?_⟩
  · rw [← f3, e]; exact b2
  · rw [← f3, e]; exact b4 k hk
theorem Bc.fo {h : Hp} {A γ : Nat → Nat} {b i : Nat} (B : Bc h γ b) (F : Fx h A γ) (hi : i < 23) : Fo h b (A i) := B.ne F hi
theorem Bc.dis {h : Hp} {γ : Nat → Nat} {b c : Nat} (B : Bc h γ b) (C : Bc h γ c) (n : b ≠ c) : Dis h b c := by
  obtain ⟨b0, b1, b2, b3, b4⟩ := B
  obtain ⟨c0, c1, c2, c3, c4⟩ := C
  refine ⟨n, fun e => n ?_, fun i j hi hj e => n ?_⟩
  · rw [← b2, e]; exact c2
  · rw [← b4 i hi, e]; exact c4 j hj
/-- another bureau's numbers -/
theorem vB_dis {h : Hp} {b c : Nat} {F : Bu} (B : BuOk h b) (C : BuOk h c) (d : Dis h b c) : vB (wB h b F) c = vB h c := by
  obtain ⟨f1, f2, f3⟩ := d.fo B C
  show (hI (wB h b F) c, hI (wB h b F) (rA h c 12), fun i => if i < 8 then hI (wB h b F) (sh h c i) else fun _ => 0) = (hI h c, hI h (rA h c 12), fun i => if i < 8 then hI h (sh h c i) else fun _ => 0)
  rw [hI_fo f1, hI_fo f2]
  have e : (fun i => if i < 8 then hI (wB h b F) (sh h c i) else fun _ => (0 : Int32)) = fun i => if i < 8 then hI h (sh h c i) else fun _ => 0 := by
    funext i
    by_cases k : i < 8
    · rw [if_pos k, if_pos k, hI_fo (f3 i k)]
    · rw [if_neg k, if_neg k]
  rw [e]
theorem vB_cong {h h2 : Hp} {b : Nat} (e1 : h2.2 = h.2) (e2 : hI h2 b = hI h b) (e3 : hI h2 (rA h b 12) = hI h (rA h b 12)) (e4 : ∀ i, i < 8 → hI h2 (sh h b i) = hI h (sh h b i)) : vB h2 b = vB h b := by
  obtain ⟨i2, r2⟩ := h2
  obtain ⟨i1, r1⟩ := h
  have e1 : r2 = r1 := e1
  subst e1
  show (i2 b, i2 (rA (i1, r2) b 12), fun i => if i < 8 then i2 (sh (i1, r2) b i) else fun _ => 0) = (i1 b, i1 (rA (i1, r2) b 12), fun i => if i < 8 then i1 (sh (i1, r2) b i) else fun _ => 0)
  have e2 : i2 b = i1 b := e2
  have e3 : i2 (rA (i1, r2) b 12) = i1 (rA (i1, r2) b 12) := e3
  have e4 : ∀ i, i < 8 → i2 (sh (i1, r2) b i) = i1 (sh (i1, r2) b i) := e4
  rw [e2, e3]
  have e : (fun i => if i < 8 then i2 (sh (i1, r2) b i) else fun _ => (0 : Int32)) = fun i => if i < 8 then i1 (sh (i1, r2) b i) else fun _ => 0 := by
    funext i
    by_cases k : i < 8
    · rw [if_pos k, if_pos k, e4 i k]
    · rw [if_neg k, if_neg k]
  rw [e]
/-! frames -/
/-- all but ints and longs the same -/
def Sh2 (h h2 : Hp) : Prop := hR h2 = hR h ∧ hK h2 = hK h ∧ hL h2 = hL h
theorem Sh2.of {h h2 : Hp} (e : h2.2 = h.2) : Sh2 h h2 := by
  obtain ⟨i2, r2⟩ := h2
  obtain ⟨i1, r1⟩ := h
  have e : r2 = r1 := e
  subst e
  exact ⟨rfl, rfl, rfl⟩
theorem CS.sh {h h2 : Hp} {A γ : Nat → Nat} {s : Sv} (c : CS h A γ s) (e : Sh2 h h2) (hv : ∀ t b, t < 12 → bA h A t = some b → Bc h γ b → vB h2 b = vB h b) : CS h2 A γ s := by
  obtain ⟨i2, r2, j2, k2, l2⟩ := h2
  obtain ⟨i1, r1, j1, k1, l1⟩ := h
  obtain ⟨e1, e2, e3⟩ := e
  have e1 : r2 = r1 := e1
  have e2 : k2 = k1 := e2
  have e3 : l2 = l1 := e3
  subst e1
  subst e2
  subst e3
  obtain ⟨c1, c2, c3, c4, c5, c6⟩ := c
  refine ⟨c1, c2, c3, c4, c5, fun t ht v => ?_⟩
  obtain ⟨b, b1, b2⟩ := c6 t ht v
  exact ⟨b, b1, (hv t b (by omega) b1 (c4.1 t b (by omega) b1)).trans b2⟩
theorem vB_fix {h h2 : Hp} {A γ : Nat → Nat} {b : Nat} (F : Fx h A γ) (B : Bc h γ b) (e : Sh2 h h2) (hq : ∀ q, (∀ i, i < 23 → q ≠ A i) → hI h2 q = hI h q) : vB h2 b = vB h b := by
  have n : ∀ i, i < 23 → _ := fun i hi => B.ne F hi
  have h1 := hq b (fun i hi z => (n i hi).1 z.symm)
  have h2' := hq (rA h b 12) (fun i hi z => (n i hi).2.1 z.symm)
  have h3 : ∀ k, k < 8 → hI h2 (sh h b k) = hI h (sh h b k) := fun k hk => hq (sh h b k) (fun i hi z => (n i hi).2.2 k hk z.symm)
  obtain ⟨i2, r2, j2, k2, l2⟩ := h2
  obtain ⟨i1, r1, j1, k1, l1⟩ := h
  obtain ⟨e1, e2, e3⟩ := e
  have e1 : r2 = r1 := e1
  have e2 : k2 = k1 := e2
  have e3 : l2 = l1 := e3
  subst e1
  subst e2
  subst e3
  exact vB_cong (h := (i1, r2, j2, k2, l2)) (h2 := (i2, r2, j2, k2, l2)) rfl h1 h2' h3
theorem CS.fix {h h2 : Hp} {A γ : Nat → Nat} {s : Sv} (c : CS h A γ s) (e : Sh2 h h2) (hq : ∀ q, (∀ i, i < 23 → q ≠ A i) → hI h2 q = hI h q) : CS h2 A γ s := c.sh e (fun _ _ _ _ B => vB_fix c.2.2.1 B e hq)
theorem NS.sh {h h2 : Hp} {A : Nat → Nat} {s : Sv} (c : NS h A s) (e : Sh2 h h2) : NS h2 A s := fun i hi v => by rw [e.1]; exact c i hi v
theorem CI.fr {h h2 : Hp} {A : Nat → Nat} {s : Sv} (c : CI h A s) (e : ∀ i, 9 ≤ i → i < 23 → hI h2 (A i) = hI h (A i)) : CI h2 A s := by
  unfold CI
  rw [e 12 (by decide) (by decide), e 15 (by decide) (by decide), e 16 (by decide) (by decide), e 14 (by decide) (by decide), e 9 (by decide) (by decide), e 10 (by decide) (by decide)]
  exact c
theorem ME.fr {h h2 : Hp} {A : Nat → Nat} {s : Sv} (c : ME h A s) (e : ∀ i, i < 9 → hI h2 (A i) = hI h (A i)) : ME h2 A s := by
  unfold ME
  rw [e 8 (by decide), e 5 (by decide), e 2 (by decide), e 6 (by decide), e 1 (by decide), e 7 (by decide)]
  exact c
/-- cells written out by their numbers -/
def wA (h : Hp) (A : Nat → Nat) (L : List (Nat × (Nat → Int32))) : Hp := wL h (L.map fun p => (A p.1, p.2))
theorem wA_at {h : Hp} {A γ : Nat → Nat} (F : Fx h A γ) {k : Nat} (hk : k < 23) : ∀ {L : List (Nat × (Nat → Int32))}, (∀ p, p ∈ L → p.1 < 23) → hI (wA h A L) (A k) = match L.find? (fun p => p.1 == k) with
    | some p => p.2
    | none => hI h (A k)
  | [], _ => rfl
  | p :: L, hL => by
    have ih := wA_at F hk (L := L) (fun p hp => hL p (List.mem_cons_of_mem _ hp))
    show (if A k = A p.1 then p.2 else wLf h (L.map fun p => (A p.1, p.2)) (A k)) = _
    rw [List.find?_cons]
    by_cases e : p.1 = k
    · rw [if_pos (by rw [e]), show (p.1 == k) = true from by rw [e]; exact beq_self_eq_true k]
    · rw [if_neg (fun z => e (F.1 k p.1 hk (hL p List.mem_cons_self) z).symm), show (p.1 == k) = false from beq_eq_false_iff_ne.mpr e]
      exact ih
theorem wA_out {h : Hp} {A : Nat → Nat} {L : List (Nat × (Nat → Int32))} (hL : ∀ p, p ∈ L → p.1 < 23) {q : Nat} (hq : ∀ i, i < 23 → q ≠ A i) : hI (wA h A L) q = hI h q := by
  show wLf h (L.map fun p => (A p.1, p.2)) q = hI h q
  refine wLf_out (fun z => ?_)
  rw [List.map_map] at z
  obtain ⟨p, hp, e⟩ := List.mem_map.mp z
  exact hq p.1 (hL p hp) e.symm
theorem CS.setA {h : Hp} {A γ : Nat → Nat} {s : Sv} (c : CS h A γ s) {L : List (Nat × (Nat → Int32))} (hL : ∀ p, p ∈ L → p.1 < 23) : CS (wA h A L) A γ s := c.fix ⟨rfl, rfl, rfl⟩ (fun _ hq => wA_out hL hq)
/-- a heap and its own cells -/
theorem wA_self {h : Hp} {A : Nat → Nat} {l : List Nat} : wA h A (l.map fun i => (i, hI h (A i))) = h := by
  have k := wL_self (h := h) (L := l.map A)
  unfold wA
  rw [List.map_map] at k ⊢
  exact k
/-! a bureau's numbers change -/
theorem CS.setB {h : Hp} {A γ : Nat → Nat} {s s' : Sv} {t b : Nat} {F : Bu} (c : CS h A γ s) (ht : t < 12) (hb : bA h A t = some b) (hs : ∀ u, u ≤ 10 → Vt s' u → u ≠ t → Vt s u ∧ (sD s' u).2.2.2 = (sD s u).2.2.2) (hs2 : t ≤ 10 → Vt s' t → (sD s' t).2.2.2 = nB F) : CS (wB h b F) A γ s' := by
  obtain ⟨c1, c2, c3, c4, c5, c6⟩ := c
  have B := c4.1 t b ht hb
  refine ⟨c1, c2, c3, c4, c5, fun u hu v => ?_⟩
  by_cases e : u = t
  · subst e
    exact ⟨b, hb, (vB_wB B.1).trans (hs2 hu v).symm⟩
  · obtain ⟨v1, v2⟩ := hs u hu v e
    obtain ⟨d, d1, d2⟩ := c6 u hu v1
    have D := c4.1 u d (by omega) d1
    have n : b ≠ d := fun z => e (c4.2 u t d (by omega) ht d1 (by rw [← z]; exact hb))
    exact ⟨d, d1, (vB_dis B.1 D.1 (B.dis D n)).trans (d2.trans v2.symm)⟩
theorem wB_fix {h : Hp} {A γ : Nat → Nat} {s : Sv} {t b : Nat} {F : Bu} (c : CS h A γ s) (ht : t < 12) (hb : bA h A t = some b) {i : Nat} (hi : i < 23) : hI (wB h b F) (A i) = hI h (A i) := hI_fo ((c.2.2.2.1.1 t b ht hb).fo c.2.2.1 hi)
/-- other bureaus' numbers -/
theorem wB_other {h : Hp} {A γ : Nat → Nat} {s : Sv} {t u b d : Nat} {F : Bu} (c : CS h A γ s) (ht : t < 12) (hb : bA h A t = some b) (hu : u < 12) (hd : bA h A u = some d) (n : u ≠ t) : vB (wB h b F) d = vB h d ∧ Dis h b d := by
  have B := c.2.2.2.1.1 t b ht hb
  have D := c.2.2.2.1.1 u d hu hd
  have e : b ≠ d := fun z => n (c.2.2.2.1.2 u t d hu ht hd (by rw [← z]; exact hb))
  exact ⟨vB_dis B.1 D.1 (B.dis D e), B.dis D e⟩
