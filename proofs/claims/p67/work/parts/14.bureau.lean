/-! THE BUREAU: its cells, its model -/
theorem g_perm {E : En} {M : Mt} {pc : Nat} {lv lv' : List (Nat × Value)} {st : List Value} {h : Hp} {k n : Nat} {P : Option Value → Hp → Prop} {X : String → Hp → Prop} (ks : List Nat) (hv : lv_pick lv ks = lv') (kk : G E M pc lv' st h k n P X) : G E M pc lv st h k n P X := by
  intro p e R s m args below meth c H locs cells slots ls C r h1 h2 hl
  exact kk p e R s m args below meth c H locs cells slots ls C r h1 h2 (lv_sub hl ks hv)
theorem g_h {E : En} {M : Mt} {pc : Nat} {lv : List (Nat × Value)} {st : List Value} {h h' : Hp} {k n : Nat} {P : Option Value → Hp → Prop} {X : String → Hp → Prop} (e : h = h') (kk : G E M pc lv st h' k n P X) : G E M pc lv st h k n P X := e ▸ kk
section
variable {E : En} {M : Mt} {pc : Nat} {lv : List (Nat × Value)} {st : List Value} {h : Hp} {k n : Nat} {P : Option Value → Hp → Prop} {X : String → Hp → Prop} {idx ci : Nat}
/-- the same rows, the answer under a name of ours -/
theorem g_getAX (y : Nat) {a f : Nat} (hr : cRf ci f = true) (hd : decode (mC M) pc = .ok (.getfield idx, 3)) (hf : FLk (mY M).cls idx ci f) (hci : ci < 19) (hk : hK h a = ci + 1) (ho : rOk h a f) (e : rA h a f = y)
    (kk : G E M (pc + 3) lv (.ref y :: st) h k n P X) : G E M pc lv (.ref a :: st) h k n P X := g_getA hr hd hf hci hk ho (by rw [e]; exact kk)
theorem g_getIX (y : Int32) {a f : Nat} (hr : cRf ci f = false) (hd : decode (mC M) pc = .ok (.getfield idx, 3)) (hf : FLk (mY M).cls idx ci f) (hci : ci < 19) (hk : hK h a = ci + 1) (e : hI h a f = y)
    (kk : G E M (pc + 3) lv (.int y :: st) h k n P X) : G E M pc lv (.ref a :: st) h k n P X := g_getI hr hd hf hci hk (by rw [e]; exact kk)
theorem g_aaloadX (y : Nat) {a kd j : Nat} (hd : decode (mC M) pc = .ok (.aaload, 1)) (hkd : kd = 25 ∨ kd = 26) (hk : hK h a = kd) (hj : j < hL h a) (hL9 : hL h a < 2 ^ 31) (ho : rOk h a j) (e : rA h a j = y)
    (kk : G E M (pc + 1) lv (.ref y :: st) h k n P X) : G E M pc lv (.int (nI j) :: .ref a :: st) h k n P X :=
  g_aaload (b := y) hd hkd hk (vp_in_nI hj hL9) (by rw [nI_clamp (Nat.lt_trans hj hL9), rA_some ho, e]) kk
theorem g_ialoadX (y : Int32) {a j : Nat} (hd : decode (mC M) pc = .ok (.iaload, 1)) (hk : hK h a = 20) (hj : j < hL h a) (hL9 : hL h a < 2 ^ 31) (e : hI h a j = y)
    (kk : G E M (pc + 1) lv (.int y :: st) h k n P X) : G E M pc lv (.int (nI j) :: .ref a :: st) h k n P X :=
  g_iaload hd hk (vp_in_nI hj hL9) (by rw [nI_clamp (Nat.lt_trans hj hL9), e]; exact kk)
theorem g_baloadX (y : Int32) {a j : Nat} (hd : decode (mC M) pc = .ok (.baload, 1)) (hk : hK h a = 21) (hj : j < hL h a) (hL9 : hL h a < 2 ^ 31) (e : hI h a j = y)
    (kk : G E M (pc + 1) lv (.int y :: st) h k n P X) : G E M pc lv (.int (nI j) :: .ref a :: st) h k n P X :=
  g_baload hd hk (vp_in_nI hj hL9) (by rw [nI_clamp (Nat.lt_trans hj hL9), e]; exact kk)
theorem g_iastoreX {a j : Nat} {x : Int32} (hd : decode (mC M) pc = .ok (.iastore, 1)) (hk : hK h a = 20) (hj : j < hL h a) (hL9 : hL h a < 2 ^ 31)
    (kk : G E M (pc + 1) lv st (sI h a j x) k n P X) : G E M pc lv (.int x :: .int (nI j) :: .ref a :: st) h k n P X :=
  g_iastore hd hk (vp_in_nI hj hL9) (by rw [nI_clamp (Nat.lt_trans hj hL9)]; exact kk)
theorem g_bastoreX {a j : Nat} {x : Int32} (hd : decode (mC M) pc = .ok (.bastore, 1)) (hk : hK h a = 21) (hj : j < hL h a) (hL9 : hL h a < 2 ^ 31)
    (kk : G E M (pc + 1) lv st (sI h a j (vp_nar .byte x)) k n P X) : G E M pc lv (.int x :: .int (nI j) :: .ref a :: st) h k n P X :=
  g_bastore hd hk (vp_in_nI hj hL9) (by rw [nI_clamp (Nat.lt_trans hj hL9)]; exact kk)
end
def sh (h : Hp) (b i : Nat) : Nat := rA h (rA h b 13) i
def BuOk (h : Hp) (b : Nat) : Prop := hK h b = 5 ∧ rOk h b 12 ∧ rOk h b 13 ∧ hK h (rA h b 12) = 20 ∧ hL h (rA h b 12) = 6 ∧ hK h (rA h b 13) = 26 ∧ hL h (rA h b 13) = 8 ∧ (∀ i, i < 8 → rOk h (rA h b 13) i ∧ hK h (sh h b i) = 6) ∧ (∀ i j, i < 8 → j < 8 → sh h b i = sh h b j → i = j)
/-- the bureau as numbers: its own, its weights, its shops -/
abbrev Bu : Type := (Nat → Int32) × (Nat → Int32) × (Nat → Nat → Int32)
def shAt (h : Hp) (b q : Nat) : Nat → Option Nat
  | 0 => none
  | n + 1 => if q = sh h b n then some n else shAt h b q n
theorem shAt_some {h : Hp} {b q i : Nat} : ∀ n, shAt h b q n = some i → i < n ∧ q = sh h b i
  | 0, e => by cases e
  | n + 1, e => by
    unfold shAt at e
    by_cases hq : q = sh h b n
    · rw [if_pos hq] at e
      cases e
      exact ⟨Nat.lt_succ_self _, hq⟩
    · rw [if_neg hq] at e
      obtain ⟨e1, e2⟩ := shAt_some n e
      exact ⟨Nat.lt_succ_of_lt e1, e2⟩
theorem shAt_none {h : Hp} {b q : Nat} : ∀ n, shAt h b q n = none → ∀ i, i < n → q ≠ sh h b i
  | 0, _, i, hi => by omega
  | n + 1, e, i, hi => by
    unfold shAt at e
    by_cases hq : q = sh h b n
    · rw [if_pos hq] at e; cases e
    · rw [if_neg hq] at e
      rcases Nat.lt_or_eq_of_le (Nat.le_of_lt_succ hi) with h1 | h1
      · exact shAt_none n e i h1
      · rw [h1]; exact hq
theorem shAt_sh {h : Hp} {b i : Nat} (hB : BuOk h b) (hi : i < 8) : shAt h b (sh h b i) 8 = some i := by
  cases e : shAt h b (sh h b i) 8 with
  | none => exact absurd rfl (shAt_none 8 e i hi)
  | some j =>
    obtain ⟨e1, e2⟩ := shAt_some 8 e
    rw [hB.2.2.2.2.2.2.2.2 i j hi e1 e2]
def vB (h : Hp) (b : Nat) : Bu := (hI h b, hI h (rA h b 12), fun i => if i < 8 then hI h (sh h b i) else fun _ => 0)
def wBf (h : Hp) (b : Nat) (B : Bu) : Nat → Nat → Int32 := fun q => if q = b then B.1 else if q = rA h b 12 then B.2.1 else match shAt h b q 8 with
  | some i => B.2.2 i
  | none => hI h q
/-- the heap with the bureau's numbers B -/
def wB (h : Hp) (b : Nat) (B : Bu) : Hp := (wBf h b B, h.2)
theorem hI_wB {h : Hp} {b : Nat} {B : Bu} (q : Nat) : hI (wB h b B) q = wBf h b B q := rfl
theorem hI_wB_b {h : Hp} {b : Nat} {B : Bu} : hI (wB h b B) b = B.1 := by rw [hI_wB]; unfold wBf; rw [if_pos rfl]
theorem BuOk.nw {h : Hp} {b : Nat} (hB : BuOk h b) : rA h b 12 ≠ b := fun e => by have h1 := hB.1; have h2 := hB.2.2.2.1; rw [e] at h2; omega
theorem BuOk.ns {h : Hp} {b i : Nat} (hB : BuOk h b) (hi : i < 8) : sh h b i ≠ b := fun e => by have h1 := hB.1; have h2 := (hB.2.2.2.2.2.2.2.1 i hi).2; rw [e] at h2; omega
theorem BuOk.nws {h : Hp} {b i : Nat} (hB : BuOk h b) (hi : i < 8) : sh h b i ≠ rA h b 12 := fun e => by have h1 := hB.2.2.2.1; have h2 := (hB.2.2.2.2.2.2.2.1 i hi).2; rw [e] at h2; omega
theorem hI_wB_w {h : Hp} {b : Nat} {B : Bu} (hB : BuOk h b) : hI (wB h b B) (rA h b 12) = B.2.1 := by rw [hI_wB]; unfold wBf; rw [if_neg hB.nw, if_pos rfl]
theorem hI_wB_s {h : Hp} {b i : Nat} {B : Bu} (hB : BuOk h b) (hi : i < 8) : hI (wB h b B) (sh h b i) = B.2.2 i := by rw [hI_wB]; unfold wBf; rw [if_neg (hB.ns hi), if_neg (hB.nws hi), shAt_sh hB hi]
theorem wB_b {h : Hp} {b : Nat} {B : Bu} (f : Nat → Int32) : sA (wB h b B) b f = wB h b (f, B.2) := by
  refine Prod.ext ?_ rfl
  funext q
  show (if q = b then f else wBf h b B q) = wBf h b (f, B.2) q
  unfold wBf
  by_cases hq : q = b <;> simp [hq]
theorem wB_w {h : Hp} {b : Nat} {B : Bu} (hB : BuOk h b) (f : Nat → Int32) : sA (wB h b B) (rA h b 12) f = wB h b (B.1, f, B.2.2) := by
  refine Prod.ext ?_ rfl
  funext q
  show (if q = rA h b 12 then f else wBf h b B q) = wBf h b (B.1, f, B.2.2) q
  unfold wBf
  by_cases hq : q = b
  · rw [if_pos hq, if_pos hq, if_neg (fun e => hB.nw (by rw [← e, hq]))]
  · by_cases hw : q = rA h b 12
    · simp only [if_pos hw, if_neg hq]
    · simp only [if_neg hw, if_neg hq]
theorem wB_s {h : Hp} {b i : Nat} {B : Bu} (hB : BuOk h b) (hi : i < 8) (f : Nat → Int32) : sA (wB h b B) (sh h b i) f = wB h b (B.1, B.2.1, u1 B.2.2 i f) := by
  refine Prod.ext ?_ rfl
  funext q
  show (if q = sh h b i then f else wBf h b B q) = wBf h b (B.1, B.2.1, u1 B.2.2 i f) q
  by_cases hq : q = sh h b i
  · rw [if_pos hq, hq]
    unfold wBf
    rw [if_neg (hB.ns hi), if_neg (hB.nws hi), shAt_sh hB hi]
    exact (u1_same _ _ _).symm
  · rw [if_neg hq]
    unfold wBf
    by_cases hqb : q = b
    · rw [if_pos hqb, if_pos hqb]
    · rw [if_neg hqb, if_neg hqb]
      by_cases hw : q = rA h b 12
      · rw [if_pos hw, if_pos hw]
      · rw [if_neg hw, if_neg hw]
        cases e : shAt h b q 8 with
        | none => rfl
        | some j =>
          have hj := shAt_some 8 e
          exact (u1_ne (fun z => hq (by rw [hj.2, z]))).symm
theorem wB_v {h : Hp} {b : Nat} : wB h b (vB h b) = h := by
  refine Prod.ext ?_ rfl
  funext q
  show wBf h b (vB h b) q = h.1 q
  unfold wBf vB
  by_cases hq : q = b
  · rw [if_pos hq, hq]; rfl
  · rw [if_neg hq]
    by_cases hw : q = rA h b 12
    · rw [if_pos hw, hw]; rfl
    · rw [if_neg hw]
      cases e : shAt h b q 8 with
      | none => rfl
      | some j =>
        have hj := shAt_some 8 e
        show (if j < 8 then hI h (sh h b j) else fun _ => 0) = h.1 q
        rw [if_pos hj.1, hj.2]; rfl
theorem BuOk.wB {h : Hp} {b c : Nat} {B : Bu} (hB : BuOk h b) : BuOk (wB h c B) b := hB
theorem i_lt (a b : Int32) : a < b ↔ a.toInt < b.toInt := Int32.lt_iff_toInt_lt
theorem i_le (a b : Int32) : a ≤ b ↔ a.toInt ≤ b.toInt := Int32.le_iff_toInt_le
def M_bound (c : Nat → Int32) (g : Int32) : Int32 := c 0 + g * c 1 / 1000
def M_abs (x : Int32) : Int32 := if 0 ≤ x then x else 0 - x
def M_pos (x : Int32) : Int32 := if 0 < x then x else 0
def M_exc (c s : Nat → Int32) (g : Int32) : Int32 := M_pos (M_abs (M_err s g) - M_bound c g)
def M_tot (c w s : Nat → Int32) : Nat → Int32
  | 0 => 0
  | n + 1 => M_tot c w s n + M_exc c s (w n)
def M_ounces (g : Int32) : Int32 := (g + 27) / 28
def M_fine (c : Nat → Int32) (t : Int32) (st : Bool) : Int32 := c 2 * M_ounces t + (if st = true then 0 else 5 * c 2)
def M_gain (c s : Nat → Int32) (f : Int32) : Int32 := s 5 * f * c 4 / 1000
def M_can (c s : Nat → Int32) : Bool := decide (s 12 ≠ 0) && decide (s 10 ≠ c 9)
def M_sell (c s : Nat → Int32) : Nat → Int32 :=
  let f := M_false s (c 9)
  let s1 := u1 (u1 s 0 (s 0 + M_gain c s f)) 14 (s 14 + M_gain c s f)
  if 0 < s 5 ∧ s 4 / 20 < f then u1 s1 8 (s 8 + 1) else s1
/-- a visit, the total excess t, the stamp st: the fine; the bureau's numbers; the shop -/
def M_visC (c : Nat → Int32) (t : Int32) (st : Bool) : Nat → Int32 :=
  let c1 := u1 c 11 (c 11 + 1)
  if 0 < t ∨ st = false then u1 c1 10 (c 10 + M_fine c t st) else c1
def M_visS (c s : Nat → Int32) (t : Int32) (st : Bool) : Nat → Int32 :=
  let s1 := u1 (u1 s 10 (c 9)) 8 0
  let s2 := if 0 < t ∨ st = false then u1 (u1 (u1 s1 0 (s 0 - M_fine c t st)) 13 (s 13 + M_fine c t st)) 9 (s 9 + 1) else s1
  let s3 := if 0 < t then M_straight s2 else s2
  let s4 := u1 s3 11 (c 9 + c 3)
  if 3 ≤ s4 9 then u1 s4 12 0 else s4
