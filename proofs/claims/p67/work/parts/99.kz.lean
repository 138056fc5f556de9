/-! THE LAW: begun, frames -/
theorem SbY.kd {h0 h : Hp} {so q : Nat} {l : List Int32} (Y : SbY h0 h so l q) : hK h so = 9 := by
  obtain ⟨-, -, vb, m, T, -, s, -⟩ := Y
  exact s.1
theorem SvL.sR {E : En} {h : Hp} {a m k : Nat} {v : Option Nat} {l : List Int32} (s : SvL E h a l) (hm : hK h m ≠ 11) : SvL E (sR h m k v) a l := by
  obtain ⟨s1, s2, u, s3⟩ := s
  refine ⟨s1, s2, u, ?_⟩
  rcases s3 with z | ⟨z1, z2, z3, z4, z5, z6⟩
  · exact Or.inl z
  · exact Or.inr ⟨z1, by rw [hR_sR, if_neg (fun y => hm (by rw [← y.1]; exact z1))]; exact z2, z3, z4, z5, z6⟩
theorem SvL.sI {E : En} {h : Hp} {a m k : Nat} {v : Int32} {l : List Int32} (s : SvL E h a l) (hm : hK h m = 20) : SvL E (sI h m k v) a l := by
  obtain ⟨s1, s2, u, s3⟩ := s
  refine ⟨s1, s2, u, ?_⟩
  rcases s3 with z | ⟨z1, z2, z3, z4, z5, z6⟩
  · exact Or.inl z
  · have n1 : a ≠ m := fun e => by rw [e] at z1; omega
    have n2 : u ≠ m := fun e => by rw [e] at z4; omega
    refine Or.inr ⟨z1, z2, ?_, z4, z5, fun j hj => ?_⟩
    · rw [hI_sI, if_neg (fun y => n1 y.1)]; exact z3
    · rw [hI_sI, if_neg (fun y => n2 y.1)]; exact z6 j hj
theorem NwT.tx {h h1 : Hp} {A γ : Nat → Nat} {a n : Nat} {l : List Int32} (t : NwT h h1 a l) (c : CS h A γ n) : TxA h1 A a l := by
  obtain ⟨u, t0, t1, t2, t3, t4, t5, t6⟩ := t
  exact ⟨u, t1, t2, t3, t4, t5, t6, fun e => (c.2.2.1.2 16 (c.ix (by decide) (by decide))).1 (by rw [← e]; exact t0)⟩
section
variable {h h1 h2 : Hp} {A γ : Nat → Nat} {V0 : Bu} {nw sc p q : Nat} {hw gw : Nat → Int32} {tv : Nat → Nat → Int32}
theorem BG.k23 (B : BG h A γ V0 nw sc p q hw gw tv) : hK h (A 23) = 8 ∧ hR h (A 23) 0 = some (A 24) ∧ hR h (A 23) 1 = some (A 25) ∧ hR h (A 23) 2 = some (A 26) := B.2.1
theorem BG.k24 (B : BG h A γ V0 nw sc p q hw gw tv) : hK h (A 24) = 20 ∧ hL h (A 24) = 10 := B.2.2.1
theorem BG.k25 (B : BG h A γ V0 nw sc p q hw gw tv) : hK h (A 25) = 20 ∧ hL h (A 25) = nw := B.2.2.2.1
theorem BG.k26 (B : BG h A γ V0 nw sc p q hw gw tv) : hK h (A 26) = 27 ∧ hL h (A 26) = sc := B.2.2.2.2.1
theorem BG.v24 (B : BG h A γ V0 nw sc p q hw gw tv) : ∀ j, j < 10 → hI h (A 24) j = hw j := B.2.2.2.2.2.1
theorem BG.v25 (B : BG h A γ V0 nw sc p q hw gw tv) : ∀ j, j < p → hI h (A 25) j = gw j := B.2.2.2.2.2.2.1
theorem BG.ts (B : BG h A γ V0 nw sc p q hw gw tv) : ∀ i, i < q → hR h (A 26) i = some (A (27 + i)) ∧ hK h (A (27 + i)) = 10 ∧ ∀ f, f < 15 → hI h (A (27 + i)) f = tv i f := B.2.2.2.2.2.2.2
theorem BG.cs (B : BG h A γ V0 nw sc p q hw gw tv) : CS h A γ (27 + q) := B.1.1
theorem ok_some {a k b : Nat} (e : hR h a k = some b) : rOk h a k ∧ rA h a k = b := by
  unfold rOk rA
  rw [e]
  exact ⟨rfl, rfl⟩
/-- all is filled: the law's numbers -/
theorem BG.lv (B : BG h A γ V0 nw sc nw sc hw gw tv) (n6 : 0 < nw ∧ nw ≤ 6) (s8 : 0 < sc ∧ sc ≤ 8) (f : Fm h h2 A (27 + sc)) : ∃ L, LV h2 (A 23) nw sc L ∧ AL h2 A sc ∧ (∀ j, j < 10 → L.1 (hp j) = hw j) ∧ L.1 7 = nI nw ∧ L.1 8 = nI sc ∧ (∀ j, j < nw → L.2.1 j = gw j) ∧ ∀ i, i < sc → ∀ g, g < 15 → L.2.2 i g = tv i g := by
  have F := B.cs.2.2.1
  obtain ⟨p1, p2, p3, p4⟩ := f 23 ⟨by decide, by omega⟩ (by decide)
  obtain ⟨q1, q2, q3, q4⟩ := f 24 ⟨by decide, by omega⟩ (by decide)
  obtain ⟨r1, r2, r3, r4⟩ := f 25 ⟨by decide, by omega⟩ (by decide)
  obtain ⟨t1, t2, t3, t4⟩ := f 26 ⟨by decide, by omega⟩ (by decide)
  obtain ⟨k1, k2, k3, k4⟩ := B.k23
  obtain ⟨o1, e1⟩ := ok_some (h := h2) (a := A 23) (k := 0) (b := A 24) (by rw [p4]; exact k2)
  obtain ⟨o2, e2⟩ := ok_some (h := h2) (a := A 23) (k := 1) (b := A 25) (by rw [p4]; exact k3)
  obtain ⟨o3, e3⟩ := ok_some (h := h2) (a := A 23) (k := 2) (b := A 26) (by rw [p4]; exact k4)
  have tt : ∀ i, i < sc → rOk h2 (A 26) i ∧ tw h2 (A 23) i = A (27 + i) := fun i hi => by
    obtain ⟨w1, w2⟩ := ok_some (h := h2) (a := A 26) (k := i) (b := A (27 + i)) (by rw [t4]; exact (B.ts i hi).1)
    refine ⟨w1, ?_⟩
    unfold tw
    rw [e3]
    exact w2
  have LO : LbOk h2 (A 23) nw sc := by
    refine ⟨p2.trans k1, ⟨o1, o2, o3⟩, ⟨by rw [e1]; exact q2.trans B.k24.1, by rw [e1]; exact q3.trans B.k24.2⟩, ⟨by rw [e2]; exact r2.trans B.k25.1, by rw [e2]; exact r3.trans B.k25.2⟩, ⟨by rw [e3]; exact t2.trans B.k26.1, by rw [e3]; exact t3.trans B.k26.2⟩, by rw [e1, e2]; exact F.ne ⟨by decide, by omega⟩ ⟨by decide, by omega⟩ (by decide), fun i hi => ⟨by rw [e3]; exact (tt i hi).1, ?_⟩, fun i j hi hj e => ?_, n6, s8⟩
    · rw [(tt i hi).2]
      exact (f (27 + i) ⟨by omega, by omega⟩ (by omega)).2.1.trans (B.ts i hi).2.1
    · rw [(tt i hi).2, (tt j hj).2] at e
      have := F.1 (27 + i) (27 + j) ⟨by omega, by omega⟩ ⟨by omega, by omega⟩ e
      omega
  refine ⟨(fun k => if k < 7 then hI h2 (A 24) k else if k = 7 then nI nw else if k = 8 then nI sc else hI h2 (A 24) (k - 2), hI h2 (A 25), fun i => hI h2 (tw h2 (A 23) i)), ⟨LO, ?_, by rw [e2], fun _ _ => rfl⟩, ⟨e1.symm, e2.symm, e3.symm, fun i hi => (tt i hi).2.symm⟩, fun j hj => ?_, rfl, rfl, fun j hj => by show hI h2 (A 25) j = gw j; rw [r1]; exact B.v25 j hj, fun i hi g hg => ?_⟩
  · rw [e1]
    funext j
    show hI h2 (A 24) j = (if hp j < 7 then hI h2 (A 24) (hp j) else if hp j = 7 then nI nw else if hp j = 8 then nI sc else hI h2 (A 24) (hp j - 2))
    unfold hp
    by_cases c : j < 7
    · rw [if_pos c, if_pos c]
    · rw [if_neg c, if_neg (by omega), if_neg (by omega), if_neg (by omega), show j + 2 - 2 = j by omega]
  · show (if hp j < 7 then hI h2 (A 24) (hp j) else if hp j = 7 then nI nw else if hp j = 8 then nI sc else hI h2 (A 24) (hp j - 2)) = hw j
    rw [q1, ← B.v24 j hj]
    unfold hp
    by_cases c : j < 7
    · rw [if_pos c, if_pos c]
    · rw [if_neg c, if_neg (by omega), if_neg (by omega), if_neg (by omega), show j + 2 - 2 = j by omega]
  · show hI h2 (tw h2 (A 23) i) g = tv i g
    rw [(tt i hi).2, (f (27 + i) ⟨by omega, by omega⟩ (by omega)).1]
    exact (B.ts i hi).2.2 g hg
end
/-! what holds when the law begins -/
theorem Q_c_new {B : Bu} : ∀ n, (∀ i, i < n → B.2.2 i 15 = B.2.2 i 0 ∧ B.2.2 i 14 = 0) → Q_coin (P_money B.2.2 n) B.2.2 n = 0
  | 0, _ => rfl
  | n + 1, h => by
    obtain ⟨h1, h2⟩ := h n (by omega)
    have ih := Q_c_new n (fun i hi => h i (by omega))
    rw [Q_coin, P_money, Q_coin_add, ih, h1, h2]
    grind
theorem tv_begin {pk : Nat → Nat → Nat} {i : Nat} {z r : Nat → Int32} (hr : ∀ k, k < 8 → r k = nI (rsP pk i k)) : ∀ f, f < 15 → tvP pk i f = M_begin z r f := by
  intro f hf
  have e1 : r 1 = nI (pk (19 + i) 60) + nI 470 := by rw [hr 1 (by decide), nI_add]; rfl
  have e2 : r 2 = nI (pk (25 + i) 41) + nI 30 := by rw [hr 2 (by decide), nI_add]; rfl
  have hx : f = 0 ∨ f = 1 ∨ f = 2 ∨ f = 3 ∨ f = 4 ∨ f = 5 ∨ f = 6 ∨ f = 7 ∨ f = 8 ∨ f = 9 ∨ f = 10 ∨ f = 11 ∨ f = 12 ∨ f = 13 ∨ f = 14 := by omega
  rcases hx with rfl | rfl | rfl | rfl | rfl | rfl | rfl | rfl | rfl | rfl | rfl | rfl | rfl | rfl | rfl
  · exact (hr 0 (by decide)).symm
  · show nI (pk (19 + i) 60) - 30 = r 1 - 500
    rw [e1, show nI 470 = (470 : Int32) from rfl]
    grind
  · show nI (pk (25 + i) 41) - 20 = r 2 - 50
    rw [e2, show nI 30 = (30 : Int32) from rfl]
    grind
  · show nI (pk (31 + i) 11) - 5 = r 3 - 5
    rw [hr 3 (by decide)]
    rfl
  · exact (hr 4 (by decide)).symm
  · exact (hr 5 (by decide)).symm
  · exact (hr 6 (by decide)).symm
  · exact (hr 7 (by decide)).symm
  all_goals rfl
theorem PB_0 {pk : Nat → Nat → Nat} (pp : Pk pk) {nw sc : Nat} (hn : 1 ≤ nw ∧ nw ≤ 4) (hs : 1 ≤ sc ∧ sc ≤ 6) {L C Y : Bu} (c : Cb (hsP pk) (gsP pk) (rsP pk) nw sc C) (l1 : ∀ j, j < 10 → L.1 (hp j) = hwP pk j) (l2 : L.1 7 = nI nw) (l3 : L.1 8 = nI sc) (l4 : ∀ j, j < nw → L.2.1 j = nI (gsP pk j)) (l5 : ∀ i, i < sc → ∀ g, g < 15 → L.2.2 i g = tvP pk i g) : PB nw sc (hsP pk 5) 0 L (nB (P_copy nw sc Y C)) := by
  have hb := Hb_P pp hn hs
  have hG := c.gd hb
  obtain ⟨c1, c2, c3, ⟨c4, c5, c6⟩, c7, c8⟩ := c
  have Lk : ∀ k, k < 7 → L.1 k = nI (hsP pk k) := fun k hk => by
    have z := l1 k (by omega)
    rw [show hp k = k from if_pos hk] at z
    rw [z]
    exact if_pos hk
  have J : Jq nw sc L C := by
    refine ⟨fun k hk => ?_, fun j hj => (l4 j hj).trans (c7 j hj).symm, fun i hi f hf => ?_⟩
    · by_cases h7 : k < 7
      · rw [Lk k h7, c1 k h7]
      · have hx : k = 7 ∨ k = 8 ∨ k = 9 ∨ k = 10 ∨ k = 11 := by omega
        rcases hx with rfl | rfl | rfl | rfl | rfl
        · exact l2.trans c2.symm
        · exact l3.trans c3.symm
        · exact (l1 7 (by decide)).trans c4.symm
        · exact (l1 8 (by decide)).trans c5.symm
        · exact (l1 9 (by decide)).trans c6.symm
    · obtain ⟨z, r, e, er⟩ := c8 i hi
      rw [l5 i hi f hf, e]
      exact tv_begin er f hf
  have s8 : sc ≤ 8 := by omega
  have gP : Gd (P_copy nw sc Y C) nw sc (hsP pk 5) 0 := Jq.gd (Jq_copy (Y := Y)) hG
  refine ⟨(J.t (Jq_copy (Y := Y)).s).t (Jq_nB s8).s, Gd_nB gP, ?_, ⟨0, Nat.le_refl _, (l1 7 (by decide)).trans rfl⟩, fun i hi => ?_, fun j hj => ?_, hsP pk 3, ?_, Lk 3 (by decide)⟩
  · rw [Q_c_nB s8]
    unfold Q_c
    have e10 : (P_copy nw sc Y C).1 10 = 0 := c5
    rw [e10, Int32.sub_zero]
    refine Q_c_new sc (fun i hi => ?_)
    obtain ⟨z, r, e, er⟩ := c8 i hi
    have ei : ∀ f, f < 16 → (P_copy nw sc Y C).2.2 i f = C.2.2 i f := fun f hf => by
      show (if i < sc then M_copy 16 (Y.2.2 i) (C.2.2 i) else Y.2.2 i) f = _
      rw [if_pos hi]
      exact if_pos hf
    rw [ei 15 (by decide), ei 0 (by decide), ei 14 (by decide), e]
    exact ⟨rfl, rfl⟩
  · left
    rw [l5 i hi 10 (by decide)]
    rfl
  · have g := gs_b pp (j := j) (by omega)
    rw [l4 j hj]
    exact ⟨(nI_leI9 (a := 1) (by decide) (by omega)).mpr g.1, (nI_leI9 (b := 5000) (by omega) (by decide)).mpr (by omega)⟩
  · have z := (hs_b pp 3 (by decide)).1
    have z : hsP pk 3 ≤ 30 := z
    omega
theorem open_all {s : Nat → Nat → Int32} : ∀ n, (∀ i, i < n → s i 12 = 1) → P_open s n = n
  | 0, _ => rfl
  | n + 1, h => by rw [P_open, if_neg (by rw [h n (by omega)]; decide), open_all n (fun i hi => h i (by omega))]
