/-! THE SAME NUMBERS: what two bureaus answer -/
def Js (s s' : Nat → Int32) : Prop := ∀ f, f < 15 → s f = s' f
def Jc (c c' : Nat → Int32) : Prop := ∀ k, k < 12 → c k = c' k
def Jq (nw sc : Nat) (B B' : Bu) : Prop := Jc B.1 B'.1 ∧ (∀ j, j < nw → B.2.1 j = B'.2.1 j) ∧ ∀ i, i < sc → Js (B.2.2 i) (B'.2.2 i)
theorem Js_u {s s' : Nat → Int32} {k : Nat} {v v' : Int32} (h : Js s s') (e : v = v') : Js (u1 s k v) (u1 s' k v') := fun f hf => by
  rw [u1_at, u1_at, e, h f hf]
theorem Jc_u {s s' : Nat → Int32} {k : Nat} {v v' : Int32} (h : Jc s s') (e : v = v') : Jc (u1 s k v) (u1 s' k v') := fun f hf => by
  rw [u1_at, u1_at, e, h f hf]
theorem Js_if {c c' : Prop} [Decidable c] [Decidable c'] {a a' b b' : Nat → Int32} (e : c ↔ c') (h1 : Js a a') (h2 : Js b b') : Js (if c then a else b) (if c' then a' else b') := by
  by_cases z : c
  · rw [if_pos z, if_pos (e.mp z)]; exact h1
  · rw [if_neg z, if_neg (fun y => z (e.mpr y))]; exact h2
theorem Jc_if {c c' : Prop} [Decidable c] [Decidable c'] {a a' b b' : Nat → Int32} (e : c ↔ c') (h1 : Jc a a') (h2 : Jc b b') : Jc (if c then a else b) (if c' then a' else b') := by
  by_cases z : c
  · rw [if_pos z, if_pos (e.mp z)]; exact h1
  · rw [if_neg z, if_neg (fun y => z (e.mpr y))]; exact h2
theorem Jq.r {nw sc : Nat} {B : Bu} : Jq nw sc B B := ⟨fun _ _ => rfl, fun _ _ => rfl, fun _ _ _ _ => rfl⟩
theorem Jq.s {nw sc : Nat} {B C : Bu} (h : Jq nw sc B C) : Jq nw sc C B := ⟨fun k hk => (h.1 k hk).symm, fun j hj => (h.2.1 j hj).symm, fun i hi f hf => (h.2.2 i hi f hf).symm⟩
theorem Jq.t {nw sc : Nat} {B C D : Bu} (h : Jq nw sc B C) (g : Jq nw sc C D) : Jq nw sc B D := ⟨fun k hk => (h.1 k hk).trans (g.1 k hk), fun j hj => (h.2.1 j hj).trans (g.2.1 j hj), fun i hi f hf => (h.2.2 i hi f hf).trans (g.2.2 i hi f hf)⟩
theorem Jq_nB {nw sc : Nat} {B : Bu} (s8 : sc ≤ 8) : Jq nw sc (nB B) B := ⟨fun _ _ => rfl, fun _ _ => rfl, fun i hi f _ => by rw [nB_s (by omega)]⟩
theorem Jq_copy {nw sc : Nat} {Y B : Bu} : Jq nw sc (P_copy nw sc Y B) B := ⟨fun k hk => if_pos hk, fun j hj => if_pos hj, fun i hi f hf => by
  show (if i < sc then M_copy 16 (Y.2.2 i) (B.2.2 i) else Y.2.2 i) f = _
  rw [if_pos hi]
  exact if_pos (by omega)⟩
section
variable {nw sc i : Nat} {B C : Bu} {c c' s s' w w' : Nat → Int32} {g d : Int32}
theorem M_err_J (hs : Js s s') : M_err s g = M_err s' g := by unfold M_err; rw [hs 1 (by decide), hs 2 (by decide)]
theorem M_exc_J (hc : Jc c c') (hs : Js s s') : M_exc c s g = M_exc c' s' g := by unfold M_exc M_bound; rw [M_err_J hs, hc 0 (by decide), hc 1 (by decide)]
theorem M_tot_J (hc : Jc c c') (hw : ∀ j, j < nw → w j = w' j) (hs : Js s s') : ∀ n, n ≤ nw → M_tot c w s n = M_tot c' w' s' n
  | 0, _ => rfl
  | n + 1, h => by rw [M_tot, M_tot, M_tot_J hc hw hs n (by omega), hw n (by omega), M_exc_J hc hs]
theorem Jq.tot (h : Jq nw sc B C) (hi : i < sc) : M_tot B.1 B.2.1 (B.2.2 i) nw = M_tot C.1 C.2.1 (C.2.2 i) nw := M_tot_J h.1 h.2.1 (h.2.2 i hi) nw (Nat.le_refl _)
theorem M_stamped_J (hs : Js s s') : M_stamped s d = M_stamped s' d := by unfold M_stamped; rw [hs 11 (by decide)]
theorem Jq.stamped (h : Jq nw sc B C) (hi : i < sc) : M_stamped (B.2.2 i) (B.1 9) = M_stamped (C.2.2 i) (C.1 9) := by rw [h.1 9 (by decide), M_stamped_J (h.2.2 i hi)]
theorem M_uses_J (hs : Js s s') : M_uses s d = M_uses s' d := by unfold M_uses; rw [hs 10 (by decide), hs 7 (by decide)]
theorem M_false_J (hs : Js s s') : M_false s d = M_false s' d := by unfold M_false; rw [M_uses_J hs, hs 4 (by decide), hs 6 (by decide), M_err_J hs]
theorem M_gain_J (hc : Jc c c') (hs : Js s s') : M_gain c s g = M_gain c' s' g := by unfold M_gain; rw [hs 5 (by decide), hc 4 (by decide)]
theorem M_fine_J (hc : Jc c c') {z : Bool} : M_fine c g z = M_fine c' g z := by unfold M_fine; rw [hc 2 (by decide)]
theorem M_can_J (hc : Jc c c') (hs : Js s s') : M_can c s = M_can c' s' := by unfold M_can; rw [hs 12 (by decide), hs 10 (by decide), hc 9 (by decide)]
theorem Jq.fine (h : Jq nw sc B C) (hi : i < sc) : P_fine B i nw = P_fine C i nw := by unfold P_fine; rw [h.tot hi, h.stamped hi, M_fine_J h.1]
theorem M_sell_J (hc : Jc c c') (hs : Js s s') : Js (M_sell c s) (M_sell c' s') := by
  have e : M_false s (c 9) = M_false s' (c' 9) := by rw [hc 9 (by decide), M_false_J hs]
  have e2 : M_gain c s (M_false s (c 9)) = M_gain c' s' (M_false s' (c' 9)) := by rw [e, M_gain_J hc hs]
  unfold M_sell
  refine Js_if (by rw [e, hs 5 (by decide), hs 4 (by decide)]) (Js_u (Js_u (Js_u hs ?_) ?_) ?_) (Js_u (Js_u hs ?_) ?_)
  · rw [hs 0 (by decide), e2]
  · rw [hs 14 (by decide), e2]
  · rw [hs 8 (by decide)]
  · rw [hs 0 (by decide), e2]
  · rw [hs 14 (by decide), e2]
theorem M_visC_J (hc : Jc c c') {z : Bool} : Jc (M_visC c g z) (M_visC c' g z) := by
  unfold M_visC
  refine Jc_if Iff.rfl (Jc_u (Jc_u hc ?_) ?_) (Jc_u hc ?_)
  · rw [hc 11 (by decide)]
  · rw [hc 10 (by decide), M_fine_J hc]
  · rw [hc 11 (by decide)]
theorem M_visS_J (hc : Jc c c') (hs : Js s s') {z : Bool} : Js (M_visS c s g z) (M_visS c' s' g z) := by
  unfold M_visS
  have h1 : Js (u1 (u1 s 10 (c 9)) 8 0) (u1 (u1 s' 10 (c' 9)) 8 0) := Js_u (Js_u hs (hc 9 (by decide))) rfl
  have h2 : Js (if 0 < g ∨ z = false then u1 (u1 (u1 (u1 (u1 s 10 (c 9)) 8 0) 0 (s 0 - M_fine c g z)) 13 (s 13 + M_fine c g z)) 9 (s 9 + 1) else u1 (u1 s 10 (c 9)) 8 0) (if 0 < g ∨ z = false then u1 (u1 (u1 (u1 (u1 s' 10 (c' 9)) 8 0) 0 (s' 0 - M_fine c' g z)) 13 (s' 13 + M_fine c' g z)) 9 (s' 9 + 1) else u1 (u1 s' 10 (c' 9)) 8 0) := by
    refine Js_if Iff.rfl (Js_u (Js_u (Js_u h1 ?_) ?_) ?_) h1
    · rw [hs 0 (by decide), M_fine_J hc]
    · rw [hs 13 (by decide), M_fine_J hc]
    · rw [hs 9 (by decide)]
  have h4 : ∀ y y' : Nat → Int32, Js y y' → Js (u1 (if 0 < g then M_straight y else y) 11 (c 9 + c 3)) (u1 (if 0 < g then M_straight y' else y') 11 (c' 9 + c' 3)) := fun y y' hy => Js_u (Js_if Iff.rfl (Js_u (Js_u hy rfl) rfl) hy) (by rw [hc 9 (by decide), hc 3 (by decide)])
  have h5 := h4 _ _ h2
  exact Js_if (by rw [h5 9 (by decide)]) (Js_u h5 rfl) h5
theorem Jq_sS (h : Jq nw sc B C) (hs : Js s s') : Jq nw sc (sS B i s) (sS C i s') := ⟨h.1, h.2.1, fun j hj f hf => by
  show u1 B.2.2 i s j f = u1 C.2.2 i s' j f
  rw [u1_at, u1_at]
  split
  · exact hs f hf
  · exact h.2.2 j hj f hf⟩
theorem Jq_sC (h : Jq nw sc B C) (hc : Jc c c') : Jq nw sc (sC B c) (sC C c') := ⟨hc, h.2⟩
theorem Jq.ins (h : Jq nw sc B C) (hi : i < sc) : Jq nw sc (P_ins B i nw) (P_ins C i nw) := by
  unfold P_ins
  dsimp only
  rw [h.tot hi, h.stamped hi]
  exact Jq_sC (Jq_sS h (M_visS_J h.1 (h.2.2 i hi))) (M_visC_J h.1)
theorem Jq.begin (h : Jq nw sc B C) : Jq nw sc (P_begin sc B) (P_begin sc C) := by
  refine ⟨Jc_u h.1 (by rw [h.1 9 (by decide)]), h.2.1, fun i hi => ?_⟩
  show Js (if i < sc then M_drift (B.2.2 i) else B.2.2 i) (if i < sc then M_drift (C.2.2 i) else C.2.2 i)
  refine Js_if Iff.rfl (Js_u (h.2.2 i hi) ?_) (h.2.2 i hi)
  rw [h.2.2 i hi 1 (by decide), h.2.2 i hi 3 (by decide)]
theorem Jq.trade (h : Jq nw sc B C) : Jq nw sc (P_trade sc B) (P_trade sc C) := by
  refine ⟨h.1, h.2.1, fun i hi => ?_⟩
  show Js (if i < sc then M_trade B.1 (B.2.2 i) else B.2.2 i) (if i < sc then M_trade C.1 (C.2.2 i) else C.2.2 i)
  refine Js_if Iff.rfl ?_ (h.2.2 i hi)
  unfold M_trade
  exact Js_if (by rw [h.2.2 i hi 12 (by decide)]) (h.2.2 i hi) (M_sell_J h.1 (h.2.2 i hi))
theorem Jq.most (h : Jq nw sc B C) : ∀ n, n ≤ sc → P_most B n = P_most C n
  | 0, _ => rfl
  | n + 1, hn => by rw [P_most, P_most, h.most n (by omega), M_can_J h.1 (h.2.2 n (by omega)), h.2.2 n (by omega) 8 (by decide)]
theorem Jq.next (h : Jq nw sc B C) : ∀ d i, i < sc → P_next B sc d i = P_next C sc d i
  | 0, _, _ => rfl
  | d + 1, i, hi => by rw [P_next, P_next, M_can_J h.1 (h.2.2 i hi), h.next d _ (by split <;> omega)]
theorem Jq.seed (h : Jq nw sc B C) : Jq nw sc (sC B (u1 B.1 6 (nI (M_seed (B.1 6))))) (sC C (u1 C.1 6 (nI (M_seed (C.1 6))))) := Jq_sC h (Jc_u h.1 (by rw [h.1 6 (by decide)]))
theorem Jq.choose (h0 : 0 < sc) (h : Jq nw sc B C) : (P_choose B sc).1 = (P_choose C sc).1 ∧ Jq nw sc (P_choose B sc).2 (P_choose C sc).2 := by
  unfold P_choose
  rw [h.most sc (Nat.le_refl _), h.next sc 0 h0]
  split
  · exact ⟨rfl, h⟩
  · refine ⟨?_, h.seed⟩
    show P_next (sC B (u1 B.1 6 (nI (M_seed (B.1 6))))) sc sc (M_seed (B.1 6) % sc) = P_next (sC C (u1 C.1 6 (nI (M_seed (C.1 6))))) sc sc (M_seed (C.1 6) % sc)
    rw [h.seed.next sc _ (Nat.mod_lt _ h0), h.1 6 (by decide)]
theorem Jq.sent (h0 : 0 < sc) : ∀ (n m : Nat) (B C : Bu), Jq nw sc B C → (P_sent nw sc n (m, B)).1 = (P_sent nw sc n (m, C)).1 ∧ Jq nw sc (P_sent nw sc n (m, B)).2 (P_sent nw sc n (m, C)).2
  | 0, _, _, _, h => ⟨rfl, h⟩
  | n + 1, m, B, C, h => by
    obtain ⟨e1, e2⟩ := Jq.choose h0 h
    rw [P_sent, P_sent]
    dsimp only
    have hl := fun i (z : (P_choose C sc).1 = some i) => P_choose_lt h0 z
    revert e1 e2 hl
    generalize P_choose B sc = u
    generalize P_choose C sc = v
    obtain ⟨u1', u2⟩ := u
    obtain ⟨v1, v2⟩ := v
    intro e1 e2 hl
    have e1 : u1' = v1 := e1
    subst e1
    cases u1' with
    | none => exact Jq.sent h0 n m u2 v2 e2
    | some i => exact Jq.sent h0 n (m + 1) _ _ (Jq.ins e2 (hl i rfl))
theorem Jq.day (h0 : 0 < sc) {ni m : Nat} (h : Jq nw sc B C) : (P_day nw sc ni (m, B)).1 = (P_day nw sc ni (m, C)).1 ∧ Jq nw sc (P_day nw sc ni (m, B)).2 (P_day nw sc ni (m, C)).2 := Jq.sent h0 ni m _ _ h.begin.trade
theorem Jq.pass (h0 : 0 < sc) {ni : Nat} : ∀ (n m : Nat) (B C : Bu), Jq nw sc B C → (P_pass nw sc ni n (m, B)).1 = (P_pass nw sc ni n (m, C)).1 ∧ Jq nw sc (P_pass nw sc ni n (m, B)).2 (P_pass nw sc ni n (m, C)).2
  | 0, _, _, _, h => ⟨rfl, h⟩
  | n + 1, m, B, C, h => by
    obtain ⟨e1, e2⟩ := Jq.day h0 (ni := ni) (m := m) h
    rw [P_pass, P_pass]
    generalize P_day nw sc ni (m, B) = u at *
    generalize P_day nw sc ni (m, C) = v at *
    obtain ⟨a, u2⟩ := u
    obtain ⟨b, v2⟩ := v
    have e1 : a = b := e1
    subst e1
    exact Jq.pass h0 n a u2 v2 e2
end
