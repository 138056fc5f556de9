/-! THE LAW: input, its pieces -/
theorem nI_any (x : Int32) : ∃ k, x = nI k := by
  refine ⟨x.toBitVec.toNat, Int32.toBitVec_inj.mp ?_⟩
  rw [show nI x.toBitVec.toNat = Int32.ofNat x.toBitVec.toNat from rfl, Int32.toBitVec_ofNat']
  simp
theorem u1_self9 (f : Nat → Int32) (a : Nat) : u1 f a (f a) = f := by
  funext q
  rw [u1_at]
  split
  · next e => rw [e]
  · rfl
theorem rF_any {f : Nat → Int32} {k : Nat} (h : f 1 = nI k) : ∃ t, f = rF f k t := by
  obtain ⟨a, ha⟩ := nI_any (f 2)
  obtain ⟨b, hb⟩ := nI_any (f 3)
  obtain ⟨c, hc⟩ := nI_any (f 4)
  refine ⟨(a, b, c, f 5), ?_⟩
  unfold rF TF
  dsimp only
  rw [← h, ← ha, ← hb, ← hc]
  funext q
  simp only [u1_at]
  split
  · next e => rw [e]
  · split
    · next e => rw [e]
    · split
      · next e => rw [e]
      · split
        · next e => rw [e]
        · split
          · next e => rw [e]
          · rfl
def OnlyIn (h h1 : Hp) (A : Nat → Nat) : Prop := h1.2 = h.2 ∧ ∀ q, q ≠ A 15 → q ≠ A 16 → hI h1 q = hI h q
theorem CS.in2 {h : Hp} {A γ : Nat → Nat} {n : Nat} (c : CS h A γ n) : (A 15 :: A 16 :: (([] : List (Nat × (Nat → Int32))).map Prod.fst)).Nodup ∧ A 15 ≠ A 16 := by
  have ne := c.2.2.1.ne (c.ix (i := 15) (by decide) (by decide)) (c.ix (i := 16) (by decide) (by decide)) (by decide)
  refine ⟨List.nodup_cons.mpr ⟨fun z => ?_, List.nodup_cons.mpr ⟨fun z => absurd z List.not_mem_nil, List.nodup_nil⟩⟩, ne⟩
  rcases List.mem_cons.mp z with e | e
  · exact ne e
  · cases e
theorem wi_append {E : En} {h : Hp} {A γ : Nat → Nat} {n k : Nat} {a1 a2 a3 a4 a5 : Int32} (c : CS h A γ n) (hk : hI h (A 15) 1 = nI k) (k5 : k + 20 ≤ 500) : CT E m_HS_append [.ref (A 22), .int a1, .int a2, .int a3, .int a4, .int a5] h 0 0 (fun v h1 => v = some (.int (nI (k + 20))) ∧ OnlyIn h h1 A ∧ hI h1 (A 15) 1 = nI (k + 20) ∧ hI h1 (A 16) = X_four (X_four (X_four (X_four (X_four (hI h (A 16)) k a1) (k + 4) a2) (k + 8) a3) (k + 12) a4) (k + 16) a5) noX := by
  obtain ⟨t, ht⟩ := rF_any hk
  obtain ⟨nd, ne⟩ := c.in2
  have e : wL h ((A 15, rF (hI h (A 15)) k t) :: (A 16, hI h (A 16)) :: []) = h := by
    rw [← ht]
    exact wL_self (h := h) (L := [A 15, A 16])
  have z := cs_HS_append (E := E) (R := []) (F0 := hI h (A 15)) (T := hI h (A 16)) (t := t) (n := k) (a1 := a1) (a2 := a2) (a3 := a3) (a4 := a4) (a5 := a5) c.2.1.1.1 c.2.1.1.2.2.1 c.2.1.2.2.1 nd k5
  rw [e] at z
  refine CT.mono z (fun v h1 r => ?_) (fun _ _ x => x)
  obtain ⟨r1, r2⟩ := r
  subst r2
  refine ⟨r1, ⟨rfl, fun q h1 h2 => ?_⟩, ?_, ?_⟩
  · show wLf h _ q = hI h q
    unfold wLf
    rw [if_neg h1]
    unfold wLf
    rw [if_neg h2]
    rfl
  · show wLf h _ (A 15) 1 = _
    unfold wLf
    rw [if_pos rfl]
    rfl
  · show wLf h _ (A 16) = _
    unfold wLf
    rw [if_neg (Ne.symm ne)]
    unfold wLf
    rw [if_pos rfl]
theorem wi_truncate {E : En} {h : Hp} {A γ : Nat → Nat} {n k j : Nat} (c : CS h A γ n) (hk : hI h (A 15) 1 = nI k) (hj : j ≤ k) (k5 : k ≤ 500) : CT E m_HS_truncate [.ref (A 22), .int (nI j)] h 0 0 (fun v h1 => v = some (.int (nI j)) ∧ OnlyIn h h1 A ∧ hI h1 (A 15) 1 = nI j ∧ hI h1 (A 16) = hI h (A 16)) noX := by
  obtain ⟨t, ht⟩ := rF_any hk
  obtain ⟨nd, ne⟩ := c.in2
  have e : wL h ((A 15, rF (hI h (A 15)) k t) :: (A 16, hI h (A 16)) :: []) = h := by
    rw [← ht]
    exact wL_self (h := h) (L := [A 15, A 16])
  have z := cs_HS_truncate (E := E) (R := []) (F0 := hI h (A 15)) (T := hI h (A 16)) (t := t) (n := k) (j := j) c.2.1.1.1 c.2.1.1.2.2.1 c.2.1.2.2.1 nd hj k5
  rw [e] at z
  refine CT.mono z (fun v h1 r => ?_) (fun _ _ x => x)
  obtain ⟨r1, r2⟩ := r
  subst r2
  refine ⟨r1, ⟨rfl, fun q h1 h2 => ?_⟩, ?_, ?_⟩
  · show wLf h _ q = hI h q
    unfold wLf
    rw [if_neg h1]
    unfold wLf
    rw [if_neg h2]
    rfl
  · show wLf h _ (A 15) 1 = _
    unfold wLf
    rw [if_pos rfl]
    rfl
  · show wLf h _ (A 16) = _
    unfold wLf
    rw [if_neg (Ne.symm ne)]
    unfold wLf
    rw [if_pos rfl]
/-- all but the input's cells stays -/
def Fi (h h1 : Hp) (A : Nat → Nat) : Prop := ∀ q, hK h q ≠ 0 → (q ≠ A 15 → q ≠ A 16 → hI h1 q = hI h q) ∧ hR h1 q = hR h q ∧ hK h1 q = hK h q ∧ hL h1 q = hL h q
def IV (h0 h : Hp) (A : Nat → Nat) (n : Nat) : Prop := (∃ γ, CS h A γ n) ∧ Fi h0 h A ∧ ∀ u b, u < 12 → bA h0 A u = some b → bA h A u = some b ∧ vB h b = vB h0 b
theorem IV.r {h : Hp} {A γ : Nat → Nat} {n : Nat} (c : CS h A γ n) : IV h h A n := ⟨⟨γ, c⟩, fun _ _ => ⟨fun _ _ => rfl, rfl, rfl, rfl⟩, fun _ _ _ e => ⟨e, rfl⟩⟩
theorem IV.ext {h0 h h1 : Hp} {A : Nat → Nat} {n : Nat} (v : IV h0 h A n) (e : Ext h h1) : IV h0 h1 A n := by
  obtain ⟨⟨γ, c⟩, f, b⟩ := v
  obtain ⟨d1, d2, d3⟩ := c.ext e
  refine ⟨⟨_, d1⟩, fun q hq => ?_, fun u x hu hx => ?_⟩
  · obtain ⟨f1, f2, f3, f4⟩ := f q hq
    obtain ⟨e1, e2, e3, e4, e5⟩ := e q (by rw [f3]; exact hq)
    exact ⟨fun h1 h2 => e1.trans (f1 h1 h2), e2.trans f2, e4.trans f3, e5.trans f4⟩
  · obtain ⟨b1, b2⟩ := b u x hu hx
    exact ⟨(d2 u hu).trans b1, (d3 u x hu b1).trans b2⟩
theorem IV.only {h0 h h1 : Hp} {A : Nat → Nat} {n : Nat} (v : IV h0 h A n) (e : OnlyIn h h1 A) : IV h0 h1 A n := by
  obtain ⟨⟨γ, c⟩, f, b⟩ := v
  obtain ⟨i, r⟩ := h
  obtain ⟨i1, r1⟩ := h1
  obtain ⟨e0, e1⟩ := e
  have e0 : r1 = r := e0
  subst e0
  refine ⟨⟨γ, c.sh ⟨rfl, rfl, rfl⟩⟩, fun q hq => ?_, fun u x hu hx => ?_⟩
  · obtain ⟨f1, f2, f3, f4⟩ := f q hq
    exact ⟨fun h1 h2 => (e1 q h1 h2).trans (f1 h1 h2), f2, f3, f4⟩
  · obtain ⟨b1, b2⟩ := b u x hu hx
    refine ⟨b1, (vB_fix (h2 := (i1, r1)) c.2.2.1 (c.2.2.2.1.1 u x hu b1) ⟨rfl, rfl, rfl⟩ (fun q hq => e1 q (hq 15 (c.ix (by decide) (by decide))) (hq 16 (c.ix (by decide) (by decide))))).trans b2⟩
/-- a text in its own cells -/
def TxA (h : Hp) (A : Nat → Nat) (a : Nat) (l : List Int32) : Prop := ∃ u, hK h a = 11 ∧ hR h a 0 = some u ∧ hI h a 1 = 0 ∧ hK h u = 21 ∧ hL h u = l.length ∧ (∀ j, j < l.length → hI h u j = l.getD j 0) ∧ u ≠ A 16
theorem TxA.ext {h h1 : Hp} {A : Nat → Nat} {a : Nat} {l : List Int32} (t : TxA h A a l) (e : Ext h h1) : TxA h1 A a l := by
  obtain ⟨u, t1, t2, t3, t4, t5, t6, t7⟩ := t
  obtain ⟨a1, a2, a3, a4, a5⟩ := e a (by omega)
  obtain ⟨b1, b2, b3, b4, b5⟩ := e u (by omega)
  exact ⟨u, a4.trans t1, by rw [a2]; exact t2, by rw [a1]; exact t3, b4.trans t4, b5.trans t5, by rw [b1]; exact t6, t7⟩
theorem TxA.only {h h1 : Hp} {A γ : Nat → Nat} {a n : Nat} {l : List Int32} (t : TxA h A a l) (c : CS h A γ n) (e : OnlyIn h h1 A) : TxA h1 A a l := by
  obtain ⟨u, t1, t2, t3, t4, t5, t6, t7⟩ := t
  obtain ⟨i, r⟩ := h
  obtain ⟨i1, r1⟩ := h1
  obtain ⟨e0, e1⟩ := e
  have e0 : r1 = r := e0
  subst e0
  obtain ⟨k1, k2, k3, k4⟩ := c.2.1.2.2.1
  have na5 : a ≠ A 15 := fun z => by rw [z] at t1; omega
  have na6 : a ≠ A 16 := fun z => by rw [z] at t1; omega
  have nu5 : u ≠ A 15 := fun z => by rw [z] at t4; omega
  refine ⟨u, t1, t2, ?_, t4, t5, fun j hj => ?_, t7⟩
  · rw [e1 a na5 na6]; exact t3
  · rw [e1 u nu5 t7]; exact t6 j hj
theorem TxA.sv {E : En} {h : Hp} {A : Nat → Nat} {a : Nat} {l : List Int32} (t : TxA h A a l) : ∃ u, SvO E h a u l.length (fun j => l.getD j 0) := by
  obtain ⟨u, t1, t2, t3, t4, t5, t6, -⟩ := t
  exact ⟨u, Or.inr ⟨t1, t2, t3, t4, t5, t6⟩⟩
/-! the text's bytes in words -/
def cz (l : List Int32) (j : Nat) : Nat := (l.getD j 0).toNatClampNeg
theorem cz_ok {l : List Int32} (a : Asc l.length (fun j => l.getD j 0)) (j : Nat) : cz l j < 128 ∧ l.getD j 0 = nI (cz l j) ∧ (l.length ≤ j → cz l j = 0) := by
  by_cases h : j < l.length
  · obtain ⟨b, b1, b2⟩ := a j h
    have b2 : l.getD j 0 = nI b := b2
    unfold cz
    rw [b2, nI_clamp (by omega)]
    exact ⟨b1, rfl, fun z => by omega⟩
  · have e : l.getD j 0 = 0 := by rw [List.getD_eq_getElem?_getD, List.getElem?_eq_none (by omega)]; rfl
    unfold cz
    rw [e]
    exact ⟨by decide, rfl, fun _ => rfl⟩
def bb (l : List Int32) (k i p : Nat) : Nat := if p < i then cz l (k + p) else 0
def wd (l : List Int32) (k i q : Nat) : Nat := W4 (bb l k i (4 * q)) (bb l k i (4 * q + 1)) (bb l k i (4 * q + 2)) (bb l k i (4 * q + 3))
theorem bb_lt {l : List Int32} {k i p : Nat} (h : p < i) : bb l k i p = cz l (k + p) := if_pos h
theorem bb_ge {l : List Int32} {k i p : Nat} (h : i ≤ p) : bb l k i p = 0 := if_neg (by omega)
theorem bb_s {l : List Int32} {k i p : Nat} (h : p ≠ i) : bb l k (i + 1) p = bb l k i p := by
  unfold bb
  by_cases c : p < i
  · rw [if_pos c, if_pos (by omega)]
  · rw [if_neg c, if_neg (by omega)]
theorem wd_o {l : List Int32} {k i q : Nat} (h : q ≠ i / 4) : wd l k (i + 1) q = wd l k i q := by
  unfold wd
  rw [bb_s (by omega), bb_s (by omega), bb_s (by omega), bb_s (by omega)]
theorem wd_s {l : List Int32} (a : Asc l.length (fun j => l.getD j 0)) {k i : Nat} : nI (wd l k i (i / 4)) ||| (l.getD (k + i) 0 <<< (nI (24 - 8 * (i % 4)) &&& 31)) = nI (wd l k (i + 1) (i / 4)) := by
  obtain ⟨q, r, hi, hr⟩ : ∃ q r, i = 4 * q + r ∧ r < 4 := ⟨i / 4, i % 4, by omega, by omega⟩
  obtain ⟨c1, c2, -⟩ := cz_ok a (k + i)
  have hb : ∀ p, bb l k i p < 128 := fun p => by
    unfold bb
    split
    · exact (cz_ok a _).1
    · decide
  obtain ⟨s1, s2, s3, s4⟩ := shl_c (cz l (k + i)) c1
  rw [c2, show i / 4 = q by omega, show i % 4 = r by omega]
  have b0 := hb (4 * q); have b1 := hb (4 * q + 1); have b2 := hb (4 * q + 2)
  have hr4 : r = 0 ∨ r = 1 ∨ r = 2 ∨ r = 3 := by omega
  unfold wd
  rcases hr4 with rfl | rfl | rfl | rfl
  · rw [bb_ge (p := 4 * q) (by omega), bb_ge (p := 4 * q + 1) (by omega), bb_ge (p := 4 * q + 2) (by omega), bb_ge (p := 4 * q + 3) (by omega), bb_lt (i := i + 1) (p := 4 * q) (by omega), bb_ge (i := i + 1) (p := 4 * q + 1) (by omega), bb_ge (i := i + 1) (p := 4 * q + 2) (by omega), bb_ge (i := i + 1) (p := 4 * q + 3) (by omega), show 24 - 8 * 0 = 24 from rfl, s1, show k + 4 * q = k + i by omega]
    have z := or_add (a := 0) (b := 2 ^ 24 * cz l (k + i)) (s := 31) (by omega) (by omega)
    rw [show W4 0 0 0 0 = 2 ^ 31 * 0 from rfl, z]
    exact congrArg nI (by unfold W4; omega)
  · rw [bb_ge (p := 4 * q + 1) (by omega), bb_ge (p := 4 * q + 2) (by omega), bb_ge (p := 4 * q + 3) (by omega), bb_s (p := 4 * q) (by omega), bb_lt (i := i + 1) (p := 4 * q + 1) (by omega), bb_ge (i := i + 1) (p := 4 * q + 2) (by omega), bb_ge (i := i + 1) (p := 4 * q + 3) (by omega), show 24 - 8 * 1 = 16 from rfl, s2, show k + (4 * q + 1) = k + i by omega]
    have z := or_add (a := bb l k i (4 * q)) (b := 2 ^ 16 * cz l (k + i)) (s := 24) (by omega) (by omega)
    rw [show W4 (bb l k i (4 * q)) 0 0 0 = 2 ^ 24 * bb l k i (4 * q) from rfl, z]
    exact congrArg nI (by unfold W4; omega)
  · rw [bb_ge (p := 4 * q + 2) (by omega), bb_ge (p := 4 * q + 3) (by omega), bb_s (p := 4 * q) (by omega), bb_s (p := 4 * q + 1) (by omega), bb_lt (i := i + 1) (p := 4 * q + 2) (by omega), bb_ge (i := i + 1) (p := 4 * q + 3) (by omega), show 24 - 8 * 2 = 8 from rfl, s3, show k + (4 * q + 2) = k + i by omega]
    have z := or_add (a := 2 ^ 8 * bb l k i (4 * q) + bb l k i (4 * q + 1)) (b := 2 ^ 8 * cz l (k + i)) (s := 16) (by omega) (by omega)
    rw [show W4 (bb l k i (4 * q)) (bb l k i (4 * q + 1)) 0 0 = 2 ^ 16 * (2 ^ 8 * bb l k i (4 * q) + bb l k i (4 * q + 1)) by unfold W4; omega, z]
    exact congrArg nI (by unfold W4; omega)
  · rw [bb_ge (p := 4 * q + 3) (by omega), bb_s (p := 4 * q) (by omega), bb_s (p := 4 * q + 1) (by omega), bb_s (p := 4 * q + 2) (by omega), bb_lt (i := i + 1) (p := 4 * q + 3) (by omega), show 24 - 8 * 3 = 0 from rfl, s4, show k + (4 * q + 3) = k + i by omega]
    have z := or_add (a := 2 ^ 16 * bb l k i (4 * q) + 2 ^ 8 * bb l k i (4 * q + 1) + bb l k i (4 * q + 2)) (b := cz l (k + i)) (s := 8) (by omega) (by omega)
    rw [show W4 (bb l k i (4 * q)) (bb l k i (4 * q + 1)) (bb l k i (4 * q + 2)) 0 = 2 ^ 8 * (2 ^ 16 * bb l k i (4 * q) + 2 ^ 8 * bb l k i (4 * q + 1) + bb l k i (4 * q + 2)) by unfold W4; omega, z]
    exact congrArg nI (by unfold W4; omega)
theorem wd_e {l : List Int32} (a : Asc l.length (fun j => l.getD j 0)) {k i q : Nat} (hi : i = 20 ∨ l.length ≤ k + i) (hq : q < 5) : wd l k i q = W4 (cz l (k + 4 * q)) (cz l (k + 4 * q + 1)) (cz l (k + 4 * q + 2)) (cz l (k + 4 * q + 3)) := by
  have e : ∀ p, p < 20 → bb l k i p = cz l (k + p) := fun p hp => by
    unfold bb
    split
    · rfl
    · exact ((cz_ok a (k + p)).2.2 (by omega)).symm
  unfold wd
  rw [e _ (by omega), e _ (by omega), e _ (by omega), e _ (by omega)]
  rfl
/-- twenty bytes more -/
theorem four5 {l : List Int32} (a : Asc l.length (fun j => l.getD j 0)) {T : Nat → Int32} {k : Nat} (hT : ∀ j, j < k → T j = nI (cz l j)) : ∀ j, j < k + 20 → X_four (X_four (X_four (X_four (X_four T k (nI (wd l k 20 0))) (k + 4) (nI (wd l k 20 1))) (k + 8) (nI (wd l k 20 2))) (k + 12) (nI (wd l k 20 3))) (k + 16) (nI (wd l k 20 4)) j = nI (cz l j) := by
  intro j hj
  have c := fun p => (cz_ok a p).1
  rw [wd_e a (Or.inl rfl) (by decide), wd_e a (Or.inl rfl) (by decide), wd_e a (Or.inl rfl) (by decide), wd_e a (Or.inl rfl) (by decide), wd_e a (Or.inl rfl) (by decide)]
  rw [W4_four (c _) (c _) (c _) (c _), W4_four (c _) (c _) (c _) (c _), W4_four (c _) (c _) (c _) (c _), W4_four (c _) (c _) (c _) (c _), W4_four (c _) (c _) (c _) (c _)]
  by_cases hk : j < k
  · rw [← hT j hk]
    simp only [u1_at]
    repeat (first | rw [if_neg (by omega)])
  · obtain ⟨d, rfl⟩ : ∃ d, j = k + d := ⟨j - k, by omega⟩
    have hd : d < 20 := by omega
    simp only [u1_at, Nat.add_assoc]
    have key : ∀ x y : Nat, (k + x = k + y) = (x = y) := fun x y => propext ⟨fun z => by omega, fun z => by rw [z]⟩
    have key0 : ∀ x : Nat, (k + x = k) = (x = 0) := fun x => propext ⟨fun z => by omega, fun z => by rw [z]; rfl⟩
    simp only [key, key0]
    have hx : d = 0 ∨ d = 1 ∨ d = 2 ∨ d = 3 ∨ d = 4 ∨ d = 5 ∨ d = 6 ∨ d = 7 ∨ d = 8 ∨ d = 9 ∨ d = 10 ∨ d = 11 ∨ d = 12 ∨ d = 13 ∨ d = 14 ∨ d = 15 ∨ d = 16 ∨ d = 17 ∨ d = 18 ∨ d = 19 := by omega
    rcases hx with rfl | rfl | rfl | rfl | rfl | rfl | rfl | rfl | rfl | rfl | rfl | rfl | rfl | rfl | rfl | rfl | rfl | rfl | rfl | rfl <;> rfl
