/-! THE INVARIANT: new bureaus in slots, the history, the model's blocks -/
theorem MpOk.kp {a m st mi nu co wd : Nat} {h h1 : Hp} (i : MpOk h m st mi nu co wd) (k : Kp a h h1) (n : m ≠ a) : MpOk h1 m st mi nu co wd := by
  obtain ⟨i1, i2, i3, i4, i5, i6, i7, i8, i9, i10, i11, i12, i13, i14, i15, i16⟩ := i
  obtain ⟨a1, a2, a3, a4⟩ := k m (by omega)
  obtain ⟨b1, b2, b3, b4⟩ := k st (by omega)
  obtain ⟨c1, c2, c3, c4⟩ := k mi (by omega)
  obtain ⟨d1, d2, d3, d4⟩ := k nu (by omega)
  obtain ⟨e1, e2, e3, e4⟩ := k co (by omega)
  obtain ⟨f1, f2, f3, f4⟩ := k wd (by omega)
  have r := a2 n
  exact ⟨a3.trans i1, by rw [r]; exact i2, b3.trans i3, b4.trans i4, by rw [r]; exact i5, c3.trans i6, c4.trans i7, by rw [r]; exact i8, d3.trans i9, d4.trans i10, by rw [r]; exact i11, e3.trans i12, e4.trans i13, by rw [r]; exact i14, f3.trans i15, f4.trans i16⟩
theorem ShM.kp {h h2 : Hp} {A γ : Nat → Nat} (c : ShM h A) (F : Fx h A γ) (n : Nat) (hn : n < 23) (nm : n ≠ 8) (k : Kp (A n) h h2) : ShM h2 A := by
  obtain ⟨c1, ⟨c2, c3, c4⟩, ⟨c5, c6, c7⟩, c8, c9⟩ := c
  have r := (k (A 8) (F.2 8 (by decide)).1).2.1 (F.ne (by decide) hn (Ne.symm nm))
  refine ⟨c1.kp k (F.ne (by decide) hn (Ne.symm nm)), ⟨by rw [r]; exact c2, (k (A 2) (by omega)).2.2.1.trans c3, (k (A 2) (by omega)).2.2.2.trans c4⟩, ⟨by rw [r]; exact c5, (k (A 6) (by omega)).2.2.1.trans c6, (k (A 6) (by omega)).2.2.2.trans c7⟩, (k (A 0) (by omega)).2.2.1.trans c8, (k (A 0) (by omega)).2.2.2.trans c9⟩
theorem ShC.kp {h h2 : Hp} {A γ : Nat → Nat} (c : ShC h A) (F : Fx h A γ) (n : Nat) (hn : n < 23) (nn : n = 13 ∨ n = 11) (k : Kp (A n) h h2) : ShC h2 A := by
  have g : ∀ i, i < 23 → i ≠ 13 → i ≠ 11 → A i ≠ A n := fun i hi h1 h2 => F.ne hi hn (by omega)
  obtain ⟨⟨c1, c2, c3, c4, c5, c6⟩, p, i, s, y, ⟨n1, n2⟩, b⟩ := c
  have r := (k (A 22) (F.2 22 (by decide)).1).2.1 (g 22 (by decide) (by decide) (by decide))
  exact ⟨⟨(k (A 22) (by omega)).2.2.1.trans c1, by rw [r]; exact c2, by rw [r]; exact c3, by rw [r]; exact c4, by rw [r]; exact c5, by rw [r]; exact c6⟩, p.kp k (g 14 (by decide) (by decide) (by decide)), i.kp k (g 15 (by decide) (by decide) (by decide)), s.kp k (g 17 (by decide) (by decide) (by decide)), y.kp k (g 12 (by decide) (by decide) (by decide)), ⟨(k (A 11) (by omega)).2.2.1.trans n1, (k (A 11) (by omega)).2.2.2.trans n2⟩, b.kp k (g 9 (by decide) (by decide) (by decide))⟩
theorem bA_pp {h : Hp} {A : Nat → Nat} {k : Nat} (hk : k < 8) : bA h A (1 + k) = hR h (A 13) k := by
  unfold bA
  rw [if_neg (by omega), if_pos (by omega), show 1 + k - 1 = k by omega]
theorem bA_sn {h : Hp} {A : Nat → Nat} {k : Nat} (hk : k < 2) : bA h A (9 + k) = hR h (A 11) k := by
  unfold bA
  rw [if_neg (by omega), if_neg (by omega), if_pos (by omega), show 9 + k - 9 = k by omega]
theorem bA_0 {h : Hp} {A : Nat → Nat} : bA h A 0 = hR h (A 22) 2 := rfl
theorem bA_11 {h : Hp} {A : Nat → Nat} : bA h A 11 = hR h (A 22) 3 := rfl
/-- the slots' arrays: n = 13 the past's, n = 11 the snapshots' -/
theorem CS.slot {h h2 : Hp} {A γ : Nat → Nat} {s : Sv} {n k t pk : Nat} (c : CS h A γ s) (hp : (n = 13 ∧ t = 1 + k ∧ k < 8) ∨ (n = 11 ∧ t = 9 + k ∧ k < 2)) (sl : Slot h (A n) k pk h2) : ∃ γ', CS h2 A γ' s ∧ bA h2 A t = some pk ∧ (∀ u, u < 12 → u ≠ t → bA h2 A u = bA h A u) ∧ (∀ i, i < 23 → hI h2 (A i) = hI h (A i)) ∧ (∀ u b, u < 12 → bA h A u = some b → vB h2 b = vB h b) ∧ (∀ j, (n = 11 → j ≠ k) → hR h2 (A 11) j = hR h (A 11) j) ∧ hR h2 (A 22) = hR h (A 22) := by
  have ht : t < 12 ∧ t ≠ 0 ∧ t ≠ 11 := by omega
  have hb : bA h A t = hR h (A n) k := by
    rcases hp with ⟨rfl, rfl, hk⟩ | ⟨rfl, rfl, hk⟩
    · exact bA_pp hk
    · exact bA_sn hk
  obtain ⟨c1, c2, c3, c4, c5, c6⟩ := id c
  have hn : n < 23 := by omega
  have kn : hK h (A n) = 25 := by
    rcases hp with ⟨rfl, -⟩ | ⟨rfl, -⟩
    · exact c1.2.2.2.2.1.2.2.1
    · exact c1.2.2.2.2.2.1.1
  rcases sl with ⟨rfl, e⟩ | ⟨e0, h', nb, rfl⟩
  · exact ⟨γ, c, by rw [hb]; exact e, fun _ _ _ => rfl, fun _ _ => rfl, fun _ _ _ _ => rfl, fun _ _ => rfl, rfl⟩
  · obtain ⟨x1, ok, ⟨f1, f2, f3, f4⟩, -⟩ := id nb
    have K : Kp (A n) h (sR h' (A n) k (some pk)) := (Kp.of _ x1).tr (Kp.sR _ _ _ _)
    have kn' : hK h' (A n) = 25 := (x1 _ (by omega)).2.2.2.1.trans kn
    have nx : A 22 ≠ A n := c3.ne (by decide) hn (by omega)
    have rx : hR (sR h' (A n) k (some pk)) (A 22) = hR h (A 22) := (K (A 22) (c3.2 22 (by decide)).1).2.1 nx
    have rA : ∀ i j, i < 23 → (i = n → j ≠ k) → hR (sR h' (A n) k (some pk)) (A i) j = hR h (A i) j := fun i j hi hj => by
      rw [hR_sR, (x1 (A i) (c3.2 i hi).1).2.1]
      rw [if_neg (fun z => by
        have := c3.1 i n hi hn z.1
        exact hj this z.2)]
    have bt : bA (sR h' (A n) k (some pk)) A t = some pk := by
      have e : hR (sR h' (A n) k (some pk)) (A n) k = some pk := by rw [hR_sR, if_pos ⟨rfl, rfl⟩]
      rcases hp with ⟨rfl, rfl, hk⟩ | ⟨rfl, rfl, hk⟩
      · rw [bA_pp hk]; exact e
      · rw [bA_sn hk]; exact e
    have bo : ∀ u, u < 12 → u ≠ t → bA (sR h' (A n) k (some pk)) A u = bA h A u := fun u hu ne => by
      unfold bA
      split
      · exact rA 22 2 (by decide) (by omega)
      · split
        · exact rA 13 (u - 1) (by decide) (by omega)
        · split
          · exact rA 11 (u - 9) (by decide) (by omega)
          · exact rA 22 3 (by decide) (by omega)
    have gl : ∀ q, hK h q ≠ 0 → γb h γ pk q = γ q := fun q hq => if_neg hq
    refine ⟨γb h γ pk, ⟨c1.kp c3 n hn (by omega) K, c2.kp c3 n hn (by omega) K, ⟨c3.1, fun i hi => ?_⟩, ⟨fun u b hu hub => ?_, fun u v b hu hv hub hvb => ?_⟩, ?_, fun u hu v => ?_⟩, bt, bo, fun i hi => (K _ (c3.2 i hi).1).1, fun u b hu hub => ((c4.1 u b hu hub).kq (γ' := γb h γ pk) K (by omega) (by omega) gl).2, fun j hj => rA 11 j (by decide) (fun z => hj z.symm), rx⟩
    · obtain ⟨g1, g2, g3⟩ := c3.2 i hi
      rw [(K _ g1).2.2.1, gl _ g1]
      exact ⟨g1, g2, g3⟩
    · by_cases e : u = t
      · rw [e, bt] at hub
        cases hub
        obtain ⟨d0, d1, d2, d3, d4⟩ := ok.kq (Kp.sR (A n) h' k (some pk)) (by omega) (by omega)
        exact ⟨d0, if_pos f1, by rw [d1]; exact if_pos f2, by rw [d2]; exact if_pos f3, fun i hi => by rw [d3 i hi]; exact if_pos (f4 i hi)⟩
      · rw [bo u hu e] at hub
        exact ((c4.1 u b hu hub).kq K (by omega) (by omega) gl).1
    · by_cases e : u = t
      · by_cases e' : v = t
        · rw [e, e']
        · exfalso
          rw [e, bt] at hub
          cases hub
          rw [bo v hv e'] at hvb
          have := (c4.1 v pk hv hvb).1.1
          omega
      · by_cases e' : v = t
        · exfalso
          rw [e', bt] at hvb
          cases hvb
          rw [bo u hu e] at hub
          have := (c4.1 u pk hu hub).1.1
          omega
        · rw [bo u hu e] at hub
          rw [bo v hv e'] at hvb
          exact c4.2 u v b hu hv hub hvb
    · rw [bo 11 (by decide) (by omega)]
      exact c5
    · obtain ⟨b, b1, b2⟩ := c6 u hu v
      have ne : u ≠ t := fun z => by rw [z, hb, e0] at b1; cases b1
      exact ⟨b, by rw [bo u (by omega) ne]; exact b1, ((c4.1 u b (by omega) b1).kq (γ' := γb h γ pk) K (by omega) (by omega) gl).2.trans b2⟩
/-! what is remembered -/
def nxS (s : Sv) : Nat := (sO s + sK s) % 8
def okS (s : Sv) : Nat × Nat := if sK s = 8 then ((sO s + 1) % 8, 8) else (sO s, sK s + 1)
def rmS (s : Sv) (d : Bd) : Sv := (fun t => if t = 1 + nxS s then d else sD s t, okS s, s.2.2)
def stS (s : Sv) (d : Bd) : Sv := (fun t => if t = 0 then d else sD s t, s.2)
theorem okS_1 {s : Sv} (o8 : sO s < 8) (k8 : sK s ≤ 8) : (okS s).1 < 8 ∧ (okS s).2 ≤ 8 ∧ (if nxS s + 1 < 8 then nxS s + 1 else 0) = ((okS s).1 + (okS s).2) % 8 := by
  unfold okS nxS
  split
  · next c =>
    rw [c]
    show (sO s + 1) % 8 < 8 ∧ 8 ≤ 8 ∧ (if (sO s + 8) % 8 + 1 < 8 then (sO s + 8) % 8 + 1 else 0) = ((sO s + 1) % 8 + 8) % 8
    refine ⟨by omega, by omega, ?_⟩
    split <;> omega
  · show sO s < 8 ∧ sK s + 1 ≤ 8 ∧ (if (sO s + sK s) % 8 + 1 < 8 then (sO s + sK s) % 8 + 1 else 0) = (sO s + (sK s + 1)) % 8
    refine ⟨o8, by omega, ?_⟩
    split <;> omega
theorem Vt_rm {s : Sv} {d : Bd} {u : Nat} (k8 : sK s ≤ 8) (v : Vt (rmS s d) u) (n : u ≠ 1 + nxS s) : Vt s u := by
  rcases v with v | ⟨j, h1, h2⟩ | v
  · exact Or.inl v
  · refine Or.inr (Or.inl ?_)
    have h1 : j < (okS s).2 := h1
    have h2 : u = 1 + ((okS s).1 + j) % 8 := h2
    unfold nxS at n
    unfold okS at h1 h2
    by_cases c : sK s = 8
    · rw [if_pos c] at h1 h2
      have h1 : j < 8 := h1
      have h2 : u = 1 + ((sO s + 1) % 8 + j) % 8 := h2
      exact ⟨j + 1, by omega, by omega⟩
    · rw [if_neg c] at h1 h2
      have h1 : j < sK s + 1 := h1
      have h2 : u = 1 + (sO s + j) % 8 := h2
      by_cases e : j = sK s
      · rw [e] at h2; exact absurd h2 n
      · exact ⟨j, by omega, h2⟩
  · exact Or.inr (Or.inr v)
theorem CS.rem {h h2 : Hp} {A γ : Nat → Nat} {s : Sv} {pk : Nat} {X : Bu} {d : Bd} (c : CS h A γ s) (ns : NS h A s) (ci : CI h A s) (o8 : sO s < 8) (k8 : sK s ≤ 8) (sl : Slot h (A 13) (nxS s) pk h2) (hd : d.2.2.2 = nB X) : ∃ γ', CS (sA (wB h2 pk X) (A 12) (hyR (hI h (A 12)) (nxS s) (sK s))) A γ' (rmS s d) ∧ NS (sA (wB h2 pk X) (A 12) (hyR (hI h (A 12)) (nxS s) (sK s))) A (rmS s d) ∧ CI (sA (wB h2 pk X) (A 12) (hyR (hI h (A 12)) (nxS s) (sK s))) A (rmS s d) ∧ (∀ i, i < 23 → i ≠ 12 → hI (sA (wB h2 pk X) (A 12) (hyR (hI h (A 12)) (nxS s) (sK s))) (A i) = hI h (A i)) ∧ hR (sA (wB h2 pk X) (A 12) (hyR (hI h (A 12)) (nxS s) (sK s))) (A 22) = hR h (A 22) ∧ ∀ u b, u < 12 → u ≠ 1 + nxS s → bA h A u = some b → bA (sA (wB h2 pk X) (A 12) (hyR (hI h (A 12)) (nxS s) (sK s))) A u = some b ∧ vB (sA (wB h2 pk X) (A 12) (hyR (hI h (A 12)) (nxS s) (sK s))) b = vB h b := by
  have n8 : nxS s < 8 := Nat.mod_lt _ (by decide)
  obtain ⟨γ', c2, b1, b2, b3, b4, b5, b6⟩ := c.slot (n := 13) (t := 1 + nxS s) (Or.inl ⟨rfl, rfl, n8⟩) sl
  have h9 : ∀ i, i < 23 → i ≠ 12 → hI (sA (wB h2 pk X) (A 12) (hyR (hI h (A 12)) (nxS s) (sK s))) (A i) = hI h (A i) := fun i hi hn => by
    show (if A i = (A 12) then _ else hI (wB h2 pk X) (A i)) = _
    rw [if_neg (c.2.2.1.ne hi (by decide) hn), wB_fix c2 (by omega) b1 hi]
    exact b3 i hi
  have hy9 : hI (sA (wB h2 pk X) (A 12) (hyR (hI h (A 12)) (nxS s) (sK s))) (A 12) = hyR (hI h (A 12)) (nxS s) (sK s) := if_pos rfl
  have cw : CS (wB h2 pk X) A γ' (rmS s d) := c2.setB (t := 1 + nxS s) (by omega) b1 (fun u hu v n => ⟨Vt_rm k8 v n, by show (if u = 1 + nxS s then d else sD s u).2.2.2 = _; rw [if_neg n]⟩) (fun _ _ => by show (if 1 + nxS s = 1 + nxS s then d else sD s _).2.2.2 = _; rw [if_pos rfl]; exact hd)
  refine ⟨γ', cw.fix ⟨rfl, rfl, rfl⟩ (fun q hq => if_neg (hq 12 (by decide))), fun i hi v => ?_, ?_, h9, b6, fun u b hu hn hub => ?_⟩
  · show hR h2 (A 11) i = none
    rw [b5 i (fun z => absurd z (by decide))]
    exact ns i hi v
  · obtain ⟨k1, k2, k3⟩ := okS_1 o8 k8
    refine ⟨⟨?_, ?_⟩, ?_, ?_, ?_⟩
    · rw [hy9]
      show hyR (hI h (A 12)) (nxS s) (sK s) 1 = nI (okS s).2
      unfold hyR okS
      by_cases c8 : sK s = 8
      · rw [if_pos c8, if_neg (by omega), u1_ne (by decide), ci.1.1, c8]
      · rw [if_neg c8, if_pos (by omega), u1_same]
    · rw [hy9]
      show hyR (hI h (A 12)) (nxS s) (sK s) 2 = nI (((okS s).1 + (okS s).2) % 8)
      rw [← k3]
      unfold hyR
      split
      · rw [u1_ne (by decide), u1_same]
      · rw [u1_same]
    · rw [h9 15 (by decide) (by decide), h9 16 (by decide) (by decide)]; exact ci.2.1
    · rw [h9 14 (by decide) (by decide)]; exact ci.2.2.1
    · rw [h9 9 (by decide) (by decide), h9 10 (by decide) (by decide)]; exact ci.2.2.2
  · have e := b2 u hu hn
    have hub2 : bA h2 A u = some b := e.trans hub
    refine ⟨hub2, ?_⟩
    have v1 : vB (wB h2 pk X) b = vB h2 b := (wB_other c2 (by omega) b1 hu hub2 hn).1
    have B9 := cw.2.2.2.1.1 u b hu hub2
    exact (vB_fix cw.2.2.1 B9 (h2 := sA (wB h2 pk X) (A 12) (hyR (hI h (A 12)) (nxS s) (sK s))) ⟨rfl, rfl, rfl⟩ (fun q hq => if_neg (hq 12 (by decide)))).trans (v1.trans (b4 u b hu hub))
/-! the model's blocks -/
theorem enc_at {nw sc q : Nat} {B : Bu} {g : Nat → Int32} : enc nw sc B g q = if q < 12 then B.1 q else if 14 ≤ q ∧ q < 14 + nw then B.2.1 (q - 14) else if 20 ≤ q ∧ q < 20 + 15 * sc then B.2.2 ((q - 20) / 15) ((q - 20) % 15) else g q := rfl
theorem enc_cong {nw sc q : Nat} {B : Bu} {g g' : Nat → Int32} (h : g q = g' q) : enc nw sc B g q = enc nw sc B g' q := by rw [enc_at, enc_at, h]
theorem enc_idem {nw sc q : Nat} {B : Bu} {g f : Nat → Int32} (h : f q = enc nw sc B g q) : enc nw sc B f q = f q := by
  rw [enc_at, h, enc_at]
  (repeat' split) <;> rfl
theorem enc_copy {nw sc : Nat} {Y B : Bu} {g : Nat → Int32} : enc nw sc (P_copy nw sc Y B) g = enc nw sc B g := by
  funext q
  rw [enc_at, enc_at]
  split
  · next c => exact P_copy_c c
  · split
    · next c => exact P_copy_w (by omega)
    · split
      · next c => exact P_copy_s (by omega) (by omega)
      · rfl
theorem money_JE {sc : Nat} {B B' : Bu} (h : JE sc B B') : P_money B'.2.2 sc = P_money B.2.2 sc := P_money_congr sc (fun j hj => h.2.2.2 j 15 (by decide))
theorem money_copy {nw sc : Nat} {Y B : Bu} : P_money (P_copy nw sc Y B).2.2 sc = P_money B.2.2 sc := P_money_congr sc (fun j hj => P_copy_s hj (by decide))
theorem Mir.cong {G G' : Nat → Int32} {t : Nat} {d : Bd} (h : ∀ q, q < 140 → G' (q + 140 * t) = G (q + 140 * t)) (m : Mir G t d) : Mir G' t d := by
  refine ⟨fun q hq => ?_, by rw [h 12 (by decide)]; exact m.2⟩
  rw [h q hq, ← m.1 q hq]
  exact enc_cong (h q hq)
/-- block f's bureau, copied to block t -/
theorem Mir.copy {G : Nat → Int32} {f t : Nat} {d d' : Bd} (m : Mir G f d) (e1 : d'.1 = d.1) (e2 : d'.2.1 = d.2.1) (he : ∀ g, enc d.1 d.2.1 d'.2.2.2 g = enc d.1 d.2.1 d.2.2.2 g) (hm : P_money d'.2.2.2.2.2 d.2.1 = P_money d.2.2.2.2.2 d.2.1) : Mir (KC G f t) t d' := by
  have k : ∀ q, q < 140 → KC G f t (q + 140 * t) = G (q + 140 * f) := fun q hq => by
    unfold KC
    rw [if_pos (by omega)]
    congr 1
    omega
  refine ⟨fun q hq => ?_, ?_⟩
  · rw [e1, e2, he, k q hq, ← m.1 q hq]
    exact enc_cong (k q hq)
  · rw [k 12 (by decide), e2, hm]
    exact m.2
theorem Mir.other {G : Nat → Int32} {f t u : Nat} {d : Bd} (m : Mir G u d) (n : u ≠ t) : Mir (KC G f t) u d := m.cong (fun q hq => by
  unfold KC
  rw [if_neg (by omega)])
/-- a change of the block 0 -/
theorem Mir.set {G : Nat → Int32} {nw sc ni : Nat} {B : Bu} (s8 : sc ≤ 8) (h12 : G 12 = P_money B.2.2 sc) : Mir (enc nw sc B G) 0 (nw, sc, ni, nB B) := by
  refine ⟨fun q hq => ?_, ?_⟩
  · show enc nw sc (nB B) (fun j => enc nw sc B G (j + 140 * 0)) q = enc nw sc B G (q + 140 * 0)
    rw [enc_nB s8]
    exact enc_idem rfl
  · show enc nw sc B G 12 = P_money (nB B).2.2 sc
    rw [enc_12, h12, money_nB s8]
theorem Mir.set_o {G : Nat → Int32} {nw sc t : Nat} {B : Bu} {d : Bd} (n6 : nw ≤ 6) (s8 : sc ≤ 8) (ht : t ≠ 0) (m : Mir G t d) : Mir (enc nw sc B G) t d := m.cong (fun q hq => enc_out n6 s8 (by omega))
/-- block 0 as the contracts have it -/
theorem Mir.z {G : Nat → Int32} {nw sc ni : Nat} {B : Bu} (n6 : nw ≤ 6) (s8 : sc ≤ 8) (m : Mir G 0 (nw, sc, ni, B)) : enc nw sc B G = G := by
  funext q
  by_cases c : q < 140
  · have := m.1 q c
    exact this
  · exact enc_out n6 s8 (by omega)
