/-! SETUPS READ BACK: a text of words, numbers and semicolons, and its tokens -/
abbrev It : Type := Nat × Nat
def rn (it : It) : List Int32 := if it.1 = 1 then strB.getD it.2 [] else if it.1 = 2 then 32 :: dgF it.2 (dgL it.2) else [59]
def rns : List It → List Int32
  | [] => []
  | it :: r => rn it ++ rns r
theorem rns_app : ∀ a b : List It, rns (a ++ b) = rns a ++ rns b
  | [], _ => rfl
  | x :: a, b => by
    show rn x ++ rns (a ++ b) = (rn x ++ rns a) ++ rns b
    rw [rns_app a b, List.append_assoc]
theorem gd_l {a b : List Int32} {j : Nat} (h : j < a.length) : (a ++ b).getD j 0 = a.getD j 0 := by
  rw [List.getD_eq_getElem?_getD, List.getD_eq_getElem?_getD, List.getElem?_append_left h]
theorem gd_r {a b : List Int32} {j : Nat} : (a ++ b).getD (a.length + j) 0 = b.getD j 0 := by
  rw [List.getD_eq_getElem?_getD, List.getD_eq_getElem?_getD, List.getElem?_append_right (Nat.le_add_right _ _), Nat.add_sub_cancel_left]
def nW : List It → Prop
  | [] => True
  | x :: _ => x.1 ≠ 1
def GoI : List It → Prop
  | [] => True
  | x :: r => ((x.1 = 1 ∧ (x.2 = 1 ∨ x.2 = 2 ∨ x.2 = 3) ∧ nW r) ∨ (x.1 = 2 ∧ x.2 < 100000) ∨ x.1 = 3) ∧ GoI r
/-- what is left of the text from byte e on is l -/
def Rm (T : Nat → Int32) (n e : Nat) (l : List Int32) : Prop := e + l.length = n ∧ ∀ j, j < l.length → T (e + j) = l.getD j 0
theorem Rm.app {T : Nat → Int32} {n e : Nat} {a b : List Int32} (h : Rm T n e (a ++ b)) : (∀ j, j < a.length → T (e + j) = a.getD j 0) ∧ Rm T n (e + a.length) b := by
  obtain ⟨h1, h2⟩ := h
  rw [List.length_append] at h1
  refine ⟨fun j hj => ?_, by omega, fun j hj => ?_⟩
  · rw [h2 j (by rw [List.length_append]; omega), gd_l hj]
  · have z := h2 (a.length + j) (by rw [List.length_append]; omega)
    rw [← Nat.add_assoc] at z
    rw [z, gd_r]
theorem Rm.cons {T : Nat → Int32} {n e : Nat} {c : Int32} {l : List Int32} (h : Rm T n e (c :: l)) : e < n ∧ T e = c ∧ Rm T n (e + 1) l := by
  obtain ⟨z1, z2⟩ := Rm.app (a := [c]) (b := l) h
  have e0 := h.1
  rw [List.length_cons] at e0
  exact ⟨by omega, z1 0 (Nat.zero_lt_one), z2⟩
theorem wh_run {p : Int32 → Bool} {T : Nat → Int32} {n : Nat} : ∀ (a e : Nat), e + a ≤ n → (∀ j, j < a → p (T (e + j)) = true) → (e + a < n → ¬ p (T (e + a)) = true) → X_wh p T (n - e) e = e + a
  | 0, e, _, _, h => X_wh_f h
  | a + 1, e, h1, h2, h3 => by
    rw [X_wh_t (e := e) (by omega) (h2 0 (by omega)), wh_run a (e + 1) (by omega) (fun j hj => by rw [show e + 1 + j = e + (j + 1) by omega]; exact h2 (j + 1) (by omega)) (by rw [show e + 1 + a = e + (a + 1) by omega]; exact h3)]
    omega
theorem num_run {T : Nat → Int32} {n : Nat} : ∀ (l : List Int32) (e : Nat) (v : Int32), e + l.length ≤ n → (∀ j, j < l.length → T (e + j) = l.getD j 0) → (∀ c, c ∈ l → X_dig c = true) → (e + l.length < n → ¬ X_dig (T (e + l.length)) = true) → X_num T (n - e) e v = l.foldl X_v1 v
  | [], e, v, _, _, _, h => X_num_f h
  | c :: l, e, v, h1, h2, h3, h4 => by
    rw [List.length_cons] at h1 h4
    have hc : T e = c := h2 0 (by rw [List.length_cons]; omega)
    rw [X_num_t (by omega) (by rw [hc]; exact h3 c List.mem_cons_self), hc, num_run l (e + 1) _ (by omega) (fun j hj => by rw [show e + 1 + j = e + (j + 1) by omega]; exact h2 (j + 1) (by rw [List.length_cons]; omega)) (fun d hd => h3 d (List.mem_cons_of_mem _ hd)) (by rw [show e + 1 + l.length = e + (l.length + 1) by omega]; exact h4)]
    rfl
theorem dgF_dig (w : Nat) : ∀ k c, c ∈ dgF w k → X_dig c = true
  | 0, c, h => by cases h
  | k + 1, c, h => by
    rw [dgF] at h
    rcases List.mem_cons.mp h with rfl | h
    · have hd : w / 10 ^ k % 10 < 10 := Nat.mod_lt _ (by decide)
      unfold X_dig
      rw [decide_eq_true (show (48 : Int32) ≤ nI (48 + w / 10 ^ k % 10) from (nI_leI9 (a := 48) (by decide) (by omega)).mpr (by omega)), decide_eq_true (show nI (48 + w / 10 ^ k % 10) ≤ 57 from (nI_leI9 (b := 57) (by omega) (by decide)).mpr (by omega))]
      rfl
    · exact dgF_dig w k c h
theorem dgF_val (w : Nat) : ∀ k a, a * 10 ^ k + w % 10 ^ k < 1000000 → (dgF w k).foldl X_v1 (nI a) = nI (a * 10 ^ k + w % 10 ^ k)
  | 0, a, _ => by
    show nI a = _
    rw [Nat.pow_zero, Nat.mod_one, Nat.mul_one, Nat.add_zero]
  | k + 1, a, h => by
    have em : w % 10 ^ (k + 1) = w % 10 ^ k + 10 ^ k * (w / 10 ^ k % 10) := by rw [Nat.pow_succ]; exact Nat.mod_mul
    have e2 : a * 10 ^ (k + 1) + w % 10 ^ (k + 1) = (10 * a + w / 10 ^ k % 10) * 10 ^ k + w % 10 ^ k := by
      rw [em, Nat.pow_succ, Nat.add_mul]
      have : a * (10 ^ k * 10) = 10 * a * 10 ^ k := by rw [Nat.mul_comm (10 ^ k) 10, ← Nat.mul_assoc, Nat.mul_comm a 10]
      rw [this, Nat.mul_comm (10 ^ k) (w / 10 ^ k % 10)]
      omega
    rw [e2] at h
    rw [dgF, List.foldl_cons]
    have p1 : 0 < 10 ^ k := Nat.pow_pos (by decide)
    have hd : w / 10 ^ k % 10 < 10 := Nat.mod_lt _ (by decide)
    have ha : 10 * a + w / 10 ^ k % 10 < 1000000 := by
      have := Nat.le_mul_of_pos_right (10 * a + w / 10 ^ k % 10) p1
      omega
    have e3 : X_v1 (nI a) (nI (48 + w / 10 ^ k % 10)) = nI (10 * a + w / 10 ^ k % 10) := by
      unfold X_v1
      rw [if_pos (show nI a < 1000000 from Int32.not_le.mp (fun z => absurd ((nI_leI9 (a := 1000000) (by decide) (by omega)).mp z) (by omega)))]
      rw [← nI_add 48, ← nI_add (10 * a), ← nI_mul 10 a, show (48 : Int32) = nI 48 from rfl, show (10 : Int32) = nI 10 from rfl]
      grind
    rw [e3, dgF_val w k _ h, e2]
theorem dgL_pow {w : Nat} (h : w < 100000) : w < 10 ^ dgL w ∧ 1 ≤ dgL w ∧ dgL w ≤ 5 := by
  unfold dgL
  by_cases h1 : w < 10
  · rw [if_pos h1]; exact ⟨by omega, by decide, by decide⟩
  · rw [if_neg h1]
    by_cases h2 : w < 100
    · rw [if_pos h2]; exact ⟨by omega, by decide, by decide⟩
    · rw [if_neg h2]
      by_cases h3 : w < 1000
      · rw [if_pos h3]; exact ⟨by omega, by decide, by decide⟩
      · rw [if_neg h3]
        by_cases h4 : w < 10000
        · rw [if_pos h4]; exact ⟨by omega, by decide, by decide⟩
        · rw [if_neg h4, if_pos h]; exact ⟨by omega, by decide, by decide⟩
theorem dg_val {w : Nat} (h : w < 100000) : (dgF w (dgL w)).foldl X_v1 0 = nI w := by
  have z := dgF_val w (dgL w) 0 (by rw [Nat.zero_mul, Nat.zero_add, Nat.mod_eq_of_lt (dgL_pow h).1]; omega)
  rw [Nat.zero_mul, Nat.zero_add, Nat.mod_eq_of_lt (dgL_pow h).1] at z
  exact z
/-! tokens -/
def Cur (T : Nat → Int32) (n : Nat) (t : Tk) : List It → Prop
  | [] => t.1 = 0
  | x :: r => t.1 = x.1 ∧ (x.1 = 1 → X_isw T t.1 t.2.1 t.2.2.1 (strB.getD x.2 []) = true) ∧ (x.1 = 2 → t.2.2.2 = nI x.2) ∧ Rm T n t.2.2.1 (rns r)
theorem wd_let : ∀ k, (k = 1 ∨ k = 2 ∨ k = 3) → (0 < (strB.getD k []).length ∧ ∀ j, j < (strB.getD k []).length → X_let ((strB.getD k []).getD j 0) = true) := by
  intro k hk
  rcases hk with rfl | rfl | rfl <;> decide +kernel
theorem let_sp {c : Int32} (h : X_let c = true) : X_sp c = false ∧ X_kind c = 1 := by
  unfold X_sp X_kind
  rw [if_pos h]
  refine ⟨decide_eq_false (fun e => ?_), rfl⟩
  rw [e] at h
  exact absurd h (by decide)
theorem dig_sp {c : Int32} (h : X_dig c = true) : X_sp c = false ∧ X_kind c = 2 := by
  have hl : X_let c = false := by
    unfold X_dig at h
    unfold X_let
    rw [Bool.and_eq_true, decide_eq_true_eq, decide_eq_true_eq] at h
    rw [decide_eq_false (fun z => absurd (Int32.le_trans z h.2) (by decide))]
    rfl
  unfold X_sp X_kind
  rw [hl, if_pos h]
  refine ⟨decide_eq_false (fun e => ?_), rfl⟩
  rw [e] at h
  exact absurd h (by decide)
/-- the byte that the rest begins with is no digit; after no word, no letter -/
theorem hd_nd {T : Nat → Int32} {n e : Nat} {its : List It} (h : Rm T n e (rns its)) (g : GoI its) (he : e < n) : ¬ X_dig (T e) = true ∧ (nW its → ¬ X_let (T e) = true) := by
  cases its with
  | nil => have := h.1; simp only [rns, List.length_nil] at this; omega
  | cons x r =>
    obtain ⟨g1, -⟩ := g
    obtain ⟨h1, -⟩ := Rm.app (a := rn x) (b := rns r) h
    rcases g1 with ⟨g1, g2, -⟩ | ⟨g1, g2⟩ | g1
    · obtain ⟨w1, w2⟩ := wd_let x.2 g2
      have ex : rn x = strB.getD x.2 [] := by unfold rn; rw [if_pos g1]
      have z := h1 0 (by rw [ex]; exact w1)
      rw [Nat.add_zero, ex] at z
      rw [z]
      refine ⟨fun d => ?_, fun n => absurd g1 n⟩
      exact absurd ((dig_sp d).2.symm.trans (let_sp (w2 0 w1)).2) (by decide)
    · have ex : rn x = 32 :: dgF x.2 (dgL x.2) := by unfold rn; rw [if_neg (by omega), if_pos g1]
      have z := h1 0 (by rw [ex, List.length_cons]; omega)
      rw [Nat.add_zero, ex] at z
      rw [show T e = 32 from z]
      exact ⟨by decide, fun _ => by decide⟩
    · have ex : rn x = [59] := by unfold rn; rw [if_neg (by omega), if_neg (by omega)]
      have z := h1 0 (by rw [ex]; exact Nat.zero_lt_one)
      rw [Nat.add_zero, ex] at z
      rw [z]
      exact ⟨by decide, fun _ => by decide⟩
theorem tok_cur {T : Nat → Int32} {n e : Nat} {v : Int32} {its : List It} (h : Rm T n e (rns its)) (g : GoI its) : Cur T n ((X_tok T n e).1, (X_tok T n e).2.1, (X_tok T n e).2.2, X_val T n e v) its := by
  cases its with
  | nil =>
    have hn : e = n := h.1
    have hs : X_wh X_sp T (n - e) e = e := X_wh_f (fun z => by omega)
    show (X_tok T n e).1 = 0
    unfold X_tok
    rw [hs]
    dsimp only
    rw [if_neg (by omega)]
  | cons x r =>
    obtain ⟨g1, g2⟩ := g
    obtain ⟨h1, h2⟩ := Rm.app (a := rn x) (b := rns r) h
    have h0 := h2.1
    unfold Cur X_tok X_val
    rcases g1 with ⟨k1, k2, k3⟩ | ⟨k1, k2⟩ | k1
    · obtain ⟨w1, w2⟩ := wd_let x.2 k2
      have ex : rn x = strB.getD x.2 [] := by unfold rn; rw [if_pos k1]
      rw [ex] at h1 h2 h0
      have t0 : T e = (strB.getD x.2 []).getD 0 0 := h1 0 w1
      have hl := w2 0 w1
      rw [← t0] at hl
      have hs : X_wh X_sp T (n - e) e = e := X_wh_f (fun _ => by rw [(let_sp hl).1]; decide)
      have hk : (if e < n then X_kind (T e) else 0) = 1 := by rw [if_pos (by omega), (let_sp hl).2]
      have hr : X_wh X_let T (n - e) e = e + (strB.getD x.2 []).length := wh_run _ e (by omega) (fun j hj => by rw [h1 j hj]; exact w2 j hj) (fun z => (hd_nd h2 g2 z).2 k3)
      rw [hs]
      dsimp only
      rw [hk, if_pos rfl, hr]
      exact ⟨k1.symm, fun _ => X_isw_t (by omega) h1, fun z => by omega, h2⟩
    · have ex : rn x = 32 :: dgF x.2 (dgL x.2) := by unfold rn; rw [if_neg (by omega), if_pos k1]
      have dl := dgF_len x.2 (dgL x.2)
      have dp := dgL_pow k2
      rw [ex, List.length_cons, dl] at h2 h0
      rw [ex] at h1
      have t0 : T e = 32 := h1 0 (by rw [List.length_cons]; omega)
      have t1 : ∀ j, j < (dgF x.2 (dgL x.2)).length → T (e + 1 + j) = (dgF x.2 (dgL x.2)).getD j 0 := fun j hj => by
        have z := h1 (j + 1) (by rw [List.length_cons]; omega)
        rw [show e + (j + 1) = e + 1 + j by omega] at z
        exact z
      have td : ∀ j, j < dgL x.2 → X_dig (T (e + 1 + j)) = true := fun j hj => by
        rw [t1 j (by omega)]
        refine dgF_dig x.2 (dgL x.2) _ ?_
        rw [List.getD_eq_getElem?_getD, List.getElem?_eq_getElem (by omega)]
        exact List.getElem_mem _
      have hd0 := td 0 (by omega)
      rw [Nat.add_zero] at hd0
      have hs : X_wh X_sp T (n - e) e = e + 1 := wh_run 1 e (by omega) (fun j hj => by
        rw [show j = 0 by omega, Nat.add_zero, t0]; decide) (fun _ => by rw [(dig_sp hd0).1]; decide)
      have hk : (if e + 1 < n then X_kind (T (e + 1)) else 0) = 2 := by rw [if_pos (by omega), (dig_sp hd0).2]
      have e5 : e + (dgL x.2 + 1) = e + 1 + dgL x.2 := by omega
      rw [e5] at h2
      have nd := fun z : e + 1 + dgL x.2 < n => (hd_nd h2 g2 z).1
      have hr : X_wh X_dig T (n - (e + 1)) (e + 1) = e + 1 + dgL x.2 := wh_run _ (e + 1) (by omega) td nd
      have hv : X_num T (n - (e + 1)) (e + 1) 0 = nI x.2 := by
        rw [num_run (dgF x.2 (dgL x.2)) (e + 1) 0 (by omega) t1 (dgF_dig x.2 (dgL x.2)) (by rw [dl]; exact nd), dg_val k2]
      rw [hs]
      dsimp only
      rw [hk, if_neg (by decide), if_pos rfl, if_pos rfl, hr, hv]
      exact ⟨k1.symm, fun z => by omega, fun _ => rfl, h2⟩
    · have ex : rn x = [59] := by unfold rn; rw [if_neg (by omega), if_neg (by omega)]
      rw [ex] at h1 h2 h0
      have h0 : e + 1 + (rns r).length = n := h0
      have t0 : T e = 59 := h1 0 (by decide)
      have hs : X_wh X_sp T (n - e) e = e := X_wh_f (fun _ => by rw [t0]; decide)
      have hk : (if e < n then X_kind (T e) else 0) = 3 := by rw [if_pos (by omega), t0]; decide
      rw [hs]
      dsimp only
      rw [hk, if_neg (by decide), if_neg (by decide), if_neg (by decide)]
      exact ⟨k1.symm, fun z => by omega, fun z => by omega, h2⟩
