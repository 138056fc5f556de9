/-! THE LAW'S OWN STATE: its Bureau lb (has: base, rate, fee, validity, price, inspectors, seed, day, coins, visits), its weights, its twins, as a Bu -/
def tw (h : Hp) (lb i : Nat) : Nat := rA h (rA h lb 2) i
def LbOk (h : Hp) (lb nw sc : Nat) : Prop := hK h lb = 8 ∧ (rOk h lb 0 ∧ rOk h lb 1 ∧ rOk h lb 2) ∧ (hK h (rA h lb 0) = 20 ∧ hL h (rA h lb 0) = 10) ∧ (hK h (rA h lb 1) = 20 ∧ hL h (rA h lb 1) = nw) ∧ (hK h (rA h lb 2) = 27 ∧ hL h (rA h lb 2) = sc) ∧ rA h lb 0 ≠ rA h lb 1 ∧ (∀ i, i < sc → rOk h (rA h lb 2) i ∧ hK h (tw h lb i) = 10) ∧ (∀ i j, i < sc → j < sc → tw h lb i = tw h lb j → i = j) ∧ (0 < nw ∧ nw ≤ 6) ∧ 0 < sc ∧ sc ≤ 8
def hp (j : Nat) : Nat := if j < 7 then j else j + 2
def hasF (c : Nat → Int32) : Nat → Int32 := fun j => c (hp j)
theorem hp_inj {i j : Nat} (e : hp i = hp j) : i = j := by unfold hp at e; split at e <;> split at e <;> omega
theorem hasF_u1 (c : Nat → Int32) (j : Nat) (v : Int32) : u1 (hasF c) j v = hasF (u1 c (hp j) v) := by
  funext q
  by_cases e : q = j
  · subst e; rw [u1_same]; unfold hasF; rw [u1_same]
  · rw [u1_ne e]; unfold hasF; rw [u1_ne (fun z => e (hp_inj z))]
def twAt (h : Hp) (lb q : Nat) : Nat → Option Nat
  | 0 => none
  | n + 1 => if q = tw h lb n then some n else twAt h lb q n
theorem twAt_some {h : Hp} {lb q i : Nat} : ∀ n, twAt h lb q n = some i → i < n ∧ q = tw h lb i
  | 0, e => by cases e
  | n + 1, e => by
    unfold twAt at e
    by_cases hq : q = tw h lb n
    · rw [if_pos hq] at e
      cases e
      exact ⟨Nat.lt_succ_self _, hq⟩
    · rw [if_neg hq] at e
      obtain ⟨e1, e2⟩ := twAt_some n e
      exact ⟨Nat.lt_succ_of_lt e1, e2⟩
theorem twAt_none {h : Hp} {lb q : Nat} : ∀ n, twAt h lb q n = none → ∀ i, i < n → q ≠ tw h lb i
  | 0, _, i, hi => by omega
  | n + 1, e, i, hi => by
    unfold twAt at e
    by_cases hq : q = tw h lb n
    · rw [if_pos hq] at e; cases e
    · rw [if_neg hq] at e
      rcases Nat.lt_or_eq_of_le (Nat.le_of_lt_succ hi) with h1 | h1
      · exact twAt_none n e i h1
      · rw [h1]; exact hq
theorem LbOk.inj {h : Hp} {lb nw sc : Nat} (L : LbOk h lb nw sc) {i j : Nat} (hi : i < sc) (hj : j < sc) (e : tw h lb i = tw h lb j) : i = j := L.2.2.2.2.2.2.2.1 i j hi hj e
theorem LbOk.tk {h : Hp} {lb nw sc : Nat} (L : LbOk h lb nw sc) {i : Nat} (hi : i < sc) : hK h (tw h lb i) = 10 := (L.2.2.2.2.2.2.1 i hi).2
theorem LbOk.to {h : Hp} {lb nw sc : Nat} (L : LbOk h lb nw sc) {i : Nat} (hi : i < sc) : rOk h (rA h lb 2) i := (L.2.2.2.2.2.2.1 i hi).1
theorem LbOk.n6 {h : Hp} {lb nw sc : Nat} (L : LbOk h lb nw sc) : 0 < nw ∧ nw ≤ 6 := L.2.2.2.2.2.2.2.2.1
theorem LbOk.s8 {h : Hp} {lb nw sc : Nat} (L : LbOk h lb nw sc) : 0 < sc ∧ sc ≤ 8 := L.2.2.2.2.2.2.2.2.2
theorem LbOk.hw {h : Hp} {lb nw sc : Nat} (L : LbOk h lb nw sc) : rA h lb 0 ≠ rA h lb 1 := L.2.2.2.2.2.1
theorem twAt_tw {h : Hp} {lb nw sc i : Nat} (L : LbOk h lb nw sc) (hi : i < sc) : twAt h lb (tw h lb i) sc = some i := by
  cases e : twAt h lb (tw h lb i) sc with
  | none => exact absurd rfl (twAt_none sc e i hi)
  | some j =>
    obtain ⟨e1, e2⟩ := twAt_some sc e
    rw [L.inj hi e1 e2]
def wTf (h : Hp) (lb sc : Nat) (B : Bu) : Nat → Nat → Int32 := fun q => if q = rA h lb 0 then hasF B.1 else if q = rA h lb 1 then B.2.1 else match twAt h lb q sc with
  | some i => B.2.2 i
  | none => hI h q
/-- the heap with the law's numbers B -/
def wT (h : Hp) (lb sc : Nat) (B : Bu) : Hp := (wTf h lb sc B, h.2)
theorem hI_wT {h : Hp} {lb sc : Nat} {B : Bu} (q : Nat) : hI (wT h lb sc B) q = wTf h lb sc B q := rfl
theorem LbOk.nth {h : Hp} {lb nw sc i : Nat} (L : LbOk h lb nw sc) (hi : i < sc) : tw h lb i ≠ rA h lb 0 := fun e => by have h1 := L.tk hi; have h2 := L.2.2.1.1; rw [e] at h1; omega
theorem LbOk.ntw {h : Hp} {lb nw sc i : Nat} (L : LbOk h lb nw sc) (hi : i < sc) : tw h lb i ≠ rA h lb 1 := fun e => by have h1 := L.tk hi; have h2 := L.2.2.2.1.1; rw [e] at h1; omega
theorem hI_wT_h {h : Hp} {lb sc : Nat} {B : Bu} : hI (wT h lb sc B) (rA h lb 0) = hasF B.1 := by rw [hI_wT]; unfold wTf; rw [if_pos rfl]
theorem hI_wT_w {h : Hp} {lb nw sc : Nat} {B : Bu} (L : LbOk h lb nw sc) : hI (wT h lb sc B) (rA h lb 1) = B.2.1 := by rw [hI_wT]; unfold wTf; rw [if_neg (Ne.symm L.hw), if_pos rfl]
theorem hI_wT_t {h : Hp} {lb nw sc i : Nat} {B : Bu} (L : LbOk h lb nw sc) (hi : i < sc) : hI (wT h lb sc B) (tw h lb i) = B.2.2 i := by rw [hI_wT]; unfold wTf; rw [if_neg (L.nth hi), if_neg (L.ntw hi), twAt_tw L hi]
theorem hI_wT_o {h : Hp} {lb sc q : Nat} {B : Bu} (h0 : q ≠ rA h lb 0) (h1 : q ≠ rA h lb 1) (h2 : ∀ i, i < sc → q ≠ tw h lb i) : hI (wT h lb sc B) q = hI h q := by
  rw [hI_wT]; unfold wTf; rw [if_neg h0, if_neg h1]
  cases e : twAt h lb q sc with
  | none => rfl
  | some j => exact absurd (twAt_some sc e).2 (h2 j (twAt_some sc e).1)
theorem wT_h {h : Hp} {lb sc : Nat} {B : Bu} (c : Nat → Int32) : sA (wT h lb sc B) (rA h lb 0) (hasF c) = wT h lb sc (sC B c) := by
  refine Prod.ext ?_ rfl
  funext q
  show (if q = rA h lb 0 then hasF c else wTf h lb sc B q) = wTf h lb sc (sC B c) q
  unfold wTf
  by_cases hq : q = rA h lb 0
  · rw [if_pos hq, if_pos hq]; rfl
  · rw [if_neg hq, if_neg hq, if_neg hq]; rfl
theorem wT_t {h : Hp} {lb nw sc i : Nat} {B : Bu} (L : LbOk h lb nw sc) (hi : i < sc) (f : Nat → Int32) : sA (wT h lb sc B) (tw h lb i) f = wT h lb sc (sS B i f) := by
  refine Prod.ext ?_ rfl
  funext q
  show (if q = tw h lb i then f else wTf h lb sc B q) = wTf h lb sc (sS B i f) q
  by_cases hq : q = tw h lb i
  · subst hq
    rw [if_pos rfl]
    unfold wTf
    rw [if_neg (L.nth hi), if_neg (L.ntw hi), twAt_tw L hi]
    exact (u1_same _ _ _).symm
  · rw [if_neg hq]
    unfold wTf
    by_cases hqb : q = rA h lb 0
    · rw [if_pos hqb, if_pos hqb]; rfl
    · rw [if_neg hqb, if_neg hqb]
      by_cases hw : q = rA h lb 1
      · rw [if_pos hw, if_pos hw]; rfl
      · rw [if_neg hw, if_neg hw]
        cases e : twAt h lb q sc with
        | none => rfl
        | some j =>
          have hj := twAt_some sc e
          exact (u1_ne (fun z => hq (by rw [hj.2, z]))).symm
theorem wT_wT {h : Hp} {lb sc : Nat} {B B' : Bu} : wT (wT h lb sc B) lb sc B' = wT h lb sc B' := by
  refine Prod.ext ?_ rfl
  funext q
  have et : ∀ n, twAt (wT h lb sc B) lb q n = twAt h lb q n := fun n => by
    induction n with
    | zero => rfl
    | succ n ih => unfold twAt; rw [ih]; rfl
  show wTf (wT h lb sc B) lb sc B' q = wTf h lb sc B' q
  unfold wTf
  rw [et]
  by_cases hqb : q = rA h lb 0
  · rw [if_pos (show q = rA (wT h lb sc B) lb 0 from hqb), if_pos hqb]
  · rw [if_neg (show ¬ q = rA (wT h lb sc B) lb 0 from hqb), if_neg hqb]
    by_cases hw : q = rA h lb 1
    · rw [if_pos (show q = rA (wT h lb sc B) lb 1 from hw), if_pos hw]
    · rw [if_neg (show ¬ q = rA (wT h lb sc B) lb 1 from hw), if_neg hw]
      cases e : twAt h lb q sc with
      | some j => rfl
      | none =>
        show wTf h lb sc B q = hI h q
        unfold wTf
        rw [if_neg hqb, if_neg hw, e]
theorem LbOk.wT {h : Hp} {lb nw sc : Nat} {B : Bu} (L : LbOk h lb nw sc) : LbOk (wT h lb sc B) lb nw sc := L
section
variable {E : En} {M Z : Mt} {pc : Nat} {lv : List (Nat × Value)} {st st0 As : List Value} {h : Hp} {k n lb nw sc i j f : Nat} {B : Bu} {P : Option Value → Hp → Prop} {X : String → Hp → Prop} {idx : Nat} {v : Int32}
theorem g_th0 (hd : decode (mC M) pc = .ok (.getfield idx, 3)) (hf : FLk (mY M).cls idx 7 0) (L : LbOk h lb nw sc)
    (kk : G E M (pc + 3) lv (.ref (rA h lb 0) :: st) (wT h lb sc B) k n P X) : G E M pc lv (.ref lb :: st) (wT h lb sc B) k n P X :=
  g_getAX (rA h lb 0) rfl hd hf (by decide) L.1 L.2.1.1 rfl kk
theorem g_th1 (hd : decode (mC M) pc = .ok (.getfield idx, 3)) (hf : FLk (mY M).cls idx 7 1) (L : LbOk h lb nw sc)
    (kk : G E M (pc + 3) lv (.ref (rA h lb 1) :: st) (wT h lb sc B) k n P X) : G E M pc lv (.ref lb :: st) (wT h lb sc B) k n P X :=
  g_getAX (rA h lb 1) rfl hd hf (by decide) L.1 L.2.1.2.1 rfl kk
theorem g_th2 (hd : decode (mC M) pc = .ok (.getfield idx, 3)) (hf : FLk (mY M).cls idx 7 2) (L : LbOk h lb nw sc)
    (kk : G E M (pc + 3) lv (.ref (rA h lb 2) :: st) (wT h lb sc B) k n P X) : G E M pc lv (.ref lb :: st) (wT h lb sc B) k n P X :=
  g_getAX (rA h lb 2) rfl hd hf (by decide) L.1 L.2.1.2.2 rfl kk
theorem g_thl (hd : decode (mC M) pc = .ok (.iaload, 1)) (L : LbOk h lb nw sc) (hj : j < 10)
    (kk : G E M (pc + 1) lv (.int (B.1 (hp j)) :: st) (wT h lb sc B) k n P X) : G E M pc lv (.int (nI j) :: .ref (rA h lb 0) :: st) (wT h lb sc B) k n P X :=
  g_ialoadX (B.1 (hp j)) hd L.2.2.1.1 (show j < hL h (rA h lb 0) by rw [L.2.2.1.2]; exact hj) (show hL h (rA h lb 0) < 2 ^ 31 by rw [L.2.2.1.2]; decide) (by rw [hI_wT_h]; rfl) kk
theorem g_ths (hd : decode (mC M) pc = .ok (.iastore, 1)) (L : LbOk h lb nw sc) (hj : j < 10)
    (kk : G E M (pc + 1) lv st (wT h lb sc (sC B (u1 B.1 (hp j) v))) k n P X) : G E M pc lv (.int v :: .int (nI j) :: .ref (rA h lb 0) :: st) (wT h lb sc B) k n P X :=
  g_iastoreX hd L.2.2.1.1 (show j < hL h (rA h lb 0) by rw [L.2.2.1.2]; exact hj) (show hL h (rA h lb 0) < 2 ^ 31 by rw [L.2.2.1.2]; decide) (by rw [sI_sA, hI_wT_h, hasF_u1, wT_h]; exact kk)
theorem g_twl (hd : decode (mC M) pc = .ok (.iaload, 1)) (L : LbOk h lb nw sc) (hj : j < nw)
    (kk : G E M (pc + 1) lv (.int (B.2.1 j) :: st) (wT h lb sc B) k n P X) : G E M pc lv (.int (nI j) :: .ref (rA h lb 1) :: st) (wT h lb sc B) k n P X :=
  g_ialoadX (B.2.1 j) hd L.2.2.2.1.1 (show j < hL h (rA h lb 1) by rw [L.2.2.2.1.2]; exact hj) (show hL h (rA h lb 1) < 2 ^ 31 by rw [L.2.2.2.1.2]; have := L.n6; omega) (by rw [hI_wT_w L]) kk
theorem g_twn (hd : decode (mC M) pc = .ok (.arraylength, 1)) (L : LbOk h lb nw sc)
    (kk : G E M (pc + 1) lv (.int (nI nw) :: st) (wT h lb sc B) k n P X) : G E M pc lv (.ref (rA h lb 1) :: st) (wT h lb sc B) k n P X := g_alenI L.2.2.2.1.1 L.2.2.2.1.2 hd kk
theorem g_tsn (hd : decode (mC M) pc = .ok (.arraylength, 1)) (L : LbOk h lb nw sc)
    (kk : G E M (pc + 1) lv (.int (nI sc) :: st) (wT h lb sc B) k n P X) : G E M pc lv (.ref (rA h lb 2) :: st) (wT h lb sc B) k n P X := g_alenT L.2.2.2.2.1.1 L.2.2.2.2.1.2 hd kk
theorem g_tsl (hd : decode (mC M) pc = .ok (.aaload, 1)) (L : LbOk h lb nw sc) (hi : i < sc)
    (kk : G E M (pc + 1) lv (.ref (tw h lb i) :: st) (wT h lb sc B) k n P X) : G E M pc lv (.int (nI i) :: .ref (rA h lb 2) :: st) (wT h lb sc B) k n P X := by
  have s8 := L.s8
  exact g_aaloadT (b := tw h lb i) hd rfl L.2.2.2.2.1.1 (vp_in_nI (show i < hL h (rA h lb 2) by rw [L.2.2.2.2.1.2]; exact hi) (show hL h (rA h lb 2) < 2 ^ 31 by rw [L.2.2.2.2.1.2]; omega)) (by rw [nI_clamp (by omega)]; exact rA_some (L.to hi)) kk
theorem g_ttI (hr : cRf 9 f = false) (hd : decode (mC M) pc = .ok (.getfield idx, 3)) (hf : FLk (mY M).cls idx 9 f) (L : LbOk h lb nw sc) (hi : i < sc)
    (kk : G E M (pc + 3) lv (.int (B.2.2 i f) :: st) (wT h lb sc B) k n P X) : G E M pc lv (.ref (tw h lb i) :: st) (wT h lb sc B) k n P X :=
  g_getIX (B.2.2 i f) hr hd hf (by decide) (L.tk hi) (by rw [hI_wT_t L hi]) kk
theorem g_ttp (hr : cRf 9 f = false) (hd : decode (mC M) pc = .ok (.putfield idx, 3)) (hf : FLk (mY M).cls idx 9 f) (hfin : ∀ q, cls[9]? = some q → (q.2.1 f).2.2.2 = false) (hn : narrow (cTy 9 f) (.int v) = .int v) (hfit : fits (cTy 9 f) (.int v) = true) (L : LbOk h lb nw sc) (hi : i < sc)
    (kk : G E M (pc + 3) lv st (wT h lb sc (sS B i (u1 (B.2.2 i) f v))) k n P X) : G E M pc lv (.int v :: .ref (tw h lb i) :: st) (wT h lb sc B) k n P X :=
  g_putI hr hd hf hfin hn hfit (by decide) (L.tk hi) (by rw [sI_sA, hI_wT_t L hi, wT_t L hi]; exact kk)
end
