/-! THE MODEL'S PARSER: tokens, words, numbers -/
def MpOk (h : Hp) (m st mi nu co wd : Nat) : Prop := hK h m = 8 ∧ hR h m 0 = some st ∧ hK h st = 20 ∧ hL h st = 1820 ∧ hR h m 4 = some mi ∧ hK h mi = 21 ∧ hL h mi = 500 ∧ hR h m 12 = some nu ∧ hK h nu = 20 ∧ hL h nu = 8 ∧ hR h m 13 = some co ∧ hK h co = 20 ∧ hL h co = 60 ∧ hR h m 18 = some wd ∧ hK h wd = 23 ∧ hL h wd = 72
def wdT : List Int32 := [98, 117, 114, 101, 97, 117, 32, 32, 119, 101, 105, 103, 104, 116, 115, 32, 115, 104, 111, 112, 32, 32, 32, 32, 100, 97, 121, 115, 32, 32, 32, 32, 118, 105, 115, 105, 116, 32, 32, 32, 114, 101, 112, 97, 105, 114, 32, 32, 116, 104, 117, 109, 98, 32, 32, 32, 99, 111, 109, 112, 108, 97, 105, 110, 111, 112, 101, 110, 32, 32, 32, 32]
def wdR : Nat → Int32 := fun j => wdT.getD j 0
def rM (c0 : Nat → Int32) (cm nx k at9 : Nat) (v e6 e7 : Int32) : Nat → Int32 := u1 (u1 (u1 (u1 (u1 (u1 (u1 c0 14 (nI cm)) 8 (nI nx)) 9 (nI k)) 10 (nI at9)) 11 v) 6 e6) 7 e7
section
variable {c0 : Nat → Int32} {cm nx k at9 x : Nat} {v e6 e7 : Int32}
theorem rM_p14 : u1 (rM c0 cm nx k at9 v e6 e7) 14 (nI x) = rM c0 x nx k at9 v e6 e7 := by funext j; simp only [rM, u1_at]; (repeat' split) <;> (first | rfl | omega)
theorem rM_p8 : u1 (rM c0 cm nx k at9 v e6 e7) 8 (nI x) = rM c0 cm x k at9 v e6 e7 := by funext j; simp only [rM, u1_at]; (repeat' split) <;> (first | rfl | omega)
theorem rM_p9 : u1 (rM c0 cm nx k at9 v e6 e7) 9 (nI x) = rM c0 cm nx x at9 v e6 e7 := by funext j; simp only [rM, u1_at]; (repeat' split) <;> (first | rfl | omega)
theorem rM_p10 : u1 (rM c0 cm nx k at9 v e6 e7) 10 (nI x) = rM c0 cm nx k x v e6 e7 := by funext j; simp only [rM, u1_at]; (repeat' split) <;> (first | rfl | omega)
end
section
variable {c0 : Nat → Int32} {cm nx k at9 : Nat} {v e6 e7 x : Int32}
theorem rM_p11 : u1 (rM c0 cm nx k at9 v e6 e7) 11 x = rM c0 cm nx k at9 x e6 e7 := by funext j; simp only [rM, u1_at]; (repeat' split) <;> (first | rfl | omega)
theorem rM_p6 : u1 (rM c0 cm nx k at9 v e6 e7) 6 x = rM c0 cm nx k at9 v x e7 := by funext j; simp only [rM, u1_at]; (repeat' split) <;> (first | rfl | omega)
theorem rM_p7 : u1 (rM c0 cm nx k at9 v e6 e7) 7 x = rM c0 cm nx k at9 v e6 x := by funext j; simp only [rM, u1_at]; (repeat' split) <;> (first | rfl | omega)
end
def rQ (c0 : Nat → Int32) (cm : Nat) (q : Ps) (w : Int32) : Nat → Int32 := rM c0 cm q.1.2.2.1 q.1.1 q.1.2.1 w q.2.2.1 q.2.2.2
def Z_v1 (v c : Int32) : Int32 := if v * 10 + c - 48 ≤ 10000000 then v * 10 + c - 48 else 10000000
def Z_num (T : Nat → Int32) : Nat → Nat → Int32 → Int32
  | 0, _, v => v
  | d + 1, e, v => if X_dig (T e) = true then Z_num T d (e + 1) (Z_v1 v (T e)) else v
theorem Z_num_t {T : Nat → Int32} {n e : Nat} {v : Int32} (he : e < n) (hp : X_dig (T e) = true) : Z_num T (n - e) e v = Z_num T (n - (e + 1)) (e + 1) (Z_v1 v (T e)) := by
  rw [show n - e = (n - (e + 1)) + 1 by omega, Z_num, if_pos hp]
theorem Z_num_f {T : Nat → Int32} {n e : Nat} {v : Int32} (hp : e < n → ¬ X_dig (T e) = true) : Z_num T (n - e) e v = v := by
  by_cases h : e < n
  · rw [show n - e = (n - (e + 1)) + 1 by omega, Z_num, if_neg (hp h)]
  · rw [show n - e = 0 by omega]; rfl
def Z_val (T : Nat → Int32) (n e : Nat) (v : Int32) : Int32 :=
  let s := X_wh X_sp T (n - e) e
  if (if s < n then X_kind (T s) else 0) = 2 then Z_num T (n - s) s 0 else v
theorem Z_val_at {T : Nat → Int32} {n e s q : Nat} {v : Int32} (hs : X_wh X_sp T (n - e) e = s) (hq : (if s < n then X_kind (T s) else 0) = q) : Z_val T n e v = if q = 2 then Z_num T (n - s) s 0 else v := by
  subst hs
  subst hq
  rfl
/-- the value that the class keeps, and the model's: the same, or both above every range -/
def VR (v w : Int32) : Prop := (v = w ∧ 0 ≤ v.toInt ∧ v.toInt < 1000000) ∨ (1000000 ≤ v.toInt ∧ v.toInt ≤ 10000000 ∧ 1000000 ≤ w.toInt ∧ w.toInt ≤ 10000000)
theorem VR_0 : VR 0 0 := Or.inl ⟨rfl, by decide, by decide⟩
theorem X_dig_b {c : Int32} (h : X_dig c = true) : 48 ≤ c.toInt ∧ c.toInt ≤ 57 := by
  unfold X_dig at h
  simp only [Bool.and_eq_true, decide_eq_true_eq] at h
  exact ⟨(i_le _ _).mp h.1, (i_le _ _).mp h.2⟩
theorem VR_step {v w c : Int32} (h : VR v w) (hc : X_dig c = true) : VR (X_v1 v c) (Z_v1 w c) := by
  have hb := X_dig_b hc
  have k10 : (10 : Int32).toInt = 10 := rfl
  have k48 : (48 : Int32).toInt = 48 := rfl
  have kM : (1000000 : Int32).toInt = 1000000 := rfl
  have kT : (10000000 : Int32).toInt = 10000000 := rfl
  have step : ∀ x : Int32, 0 ≤ x.toInt → x.toInt ≤ 10000000 → (x * 10 + c - 48).toInt = x.toInt * 10 + c.toInt - 48 ∧ (10 * x + c - 48).toInt = x.toInt * 10 + c.toInt - 48 := fun x h0 h1 => by
    have m1 : (x * 10).toInt = x.toInt * 10 := by rw [i_mulI (by rw [k10]; omega) (by rw [k10]; omega), k10]
    have m2 : (10 * x).toInt = x.toInt * 10 := by rw [Int32.mul_comm, m1]
    have a1 : (x * 10 + c).toInt = x.toInt * 10 + c.toInt := by rw [i_addI (by omega) (by omega), m1]
    have a2 : (10 * x + c).toInt = x.toInt * 10 + c.toInt := by rw [i_addI (by omega) (by omega), m2]
    exact ⟨by rw [i_subI (by omega) (by omega), a1, k48], by rw [i_subI (by omega) (by omega), a2, k48]⟩
  unfold X_v1 Z_v1
  rcases h with ⟨rfl, h0, h1⟩ | ⟨h0, h1, h2, h3⟩
  · have s := step v h0 (by omega)
    rw [if_pos ((i_lt _ _).mpr (by rw [kM]; exact h1)), if_pos ((i_le _ _).mpr (by rw [s.1, kT]; omega))]
    by_cases hx : v.toInt * 10 + c.toInt - 48 < 1000000
    · exact Or.inl ⟨Int32.toInt_inj.mp (s.2.trans s.1.symm), by omega, by omega⟩
    · exact Or.inr ⟨by omega, by omega, by omega, by omega⟩
  · have s := step w (by omega) (by omega)
    rw [if_neg (fun z => by have := (i_lt _ _).mp z; rw [kM] at this; omega)]
    refine Or.inr ⟨h0, h1, ?_⟩
    split
    · next z => have := (i_le _ _).mp z; rw [kT] at this; omega
    · rw [kT]; omega
theorem VR_num {T : Nat → Int32} : ∀ (d e : Nat) (v w : Int32), VR v w → VR (X_num T d e v) (Z_num T d e w)
  | 0, _, _, _, h => h
  | d + 1, e, v, w, h => by
    rw [X_num, Z_num]
    split
    · next z => exact VR_num d _ _ _ (VR_step h z)
    · exact h
theorem VR_val {T : Nat → Int32} {n e : Nat} {v w : Int32} (h : (X_tok T n e).1 = 2) : VR (X_val T n e v) (Z_val T n e w) := by
  have h2 : (if X_wh X_sp T (n - e) e < n then X_kind (T (X_wh X_sp T (n - e) e)) else 0) = 2 := h
  rw [X_val_at rfl h2, Z_val_at rfl h2, if_pos rfl, if_pos rfl]
  exact VR_num _ _ _ _ VR_0
theorem VR_in {v w lo hi : Int32} (h : VR v w) (hl : 0 ≤ lo.toInt) (hh : hi.toInt ≤ 65536) : ((lo ≤ w ∧ w ≤ hi) ↔ (lo ≤ v ∧ v ≤ hi)) ∧ (lo ≤ v ∧ v ≤ hi → w = v) := by
  rcases h with ⟨rfl, -, -⟩ | ⟨h0, h1, h2, h3⟩
  · exact ⟨Iff.rfl, fun _ => rfl⟩
  · have a : ¬ v ≤ hi := fun z => by have := (i_le _ _).mp z; omega
    have b : ¬ w ≤ hi := fun z => by have := (i_le _ _).mp z; omega
    exact ⟨⟨fun z => absurd z.2 b, fun z => absurd z.2 a⟩, fun z => absurd z.2 a⟩
def VQ (q : Ps) (w : Int32) : Prop := q.1.1 = 2 → VR q.1.2.2.2 w
def TW (T : Nat → Int32) (n : Nat) (t : Tk) : Prop := TkO n t ∧ (t.1 = 1 → ∀ j, t.2.1 ≤ j → j < t.2.2.1 → X_let (T j) = true)
theorem X_wh_all {p : Int32 → Bool} {T : Nat → Int32} : ∀ d e j, e ≤ j → j < X_wh p T d e → p (T j) = true
  | 0, e, j, h1, h2 => absurd h2 (by rw [X_wh]; omega)
  | d + 1, e, j, h1, h2 => by
    rw [X_wh] at h2
    split at h2
    · next z =>
      by_cases h : e = j
      · exact h ▸ z
      · exact X_wh_all d (e + 1) j (by omega) h2
    · omega
theorem TW_tok {T : Nat → Int32} {n e : Nat} {v : Int32} (he : e ≤ n) : TW T n ((X_tok T n e).1, (X_tok T n e).2.1, (X_tok T n e).2.2, v) := by
  refine ⟨TkO_tok he, fun h j h1 h2 => ?_⟩
  have h' : (if X_wh X_sp T (n - e) e < n then X_kind (T (X_wh X_sp T (n - e) e)) else 0) = 1 := h
  have e2 := X_tok_at (T := T) (n := n) (e := e) rfl h'
  rw [e2] at h1 h2
  exact X_wh_all _ _ j h1 h2
theorem TW_nx {T : Nat → Int32} {n : Nat} {t : Tk} (h : TkO n t) : TW T n (Y_nx T n t) := TW_tok h.2.2
theorem VQ_tok {T : Nat → Int32} {n e : Nat} {v w : Int32} {z : Int32 × Int32 × Int32} : VQ (((X_tok T n e).1, (X_tok T n e).2.1, (X_tok T n e).2.2, X_val T n e v), z) (Z_val T n e w) := fun h => VR_val h
/-- the token of q is the one that comes next behind e -/
def BH (T : Nat → Int32) (n e : Nat) (q : Ps) : Prop := e ≤ n ∧ ∃ v, q.1 = ((X_tok T n e).1, (X_tok T n e).2.1, (X_tok T n e).2.2, X_val T n e v)
theorem BH_nx {T : Nat → Int32} {n : Nat} {q : Ps} (h : TkO n q.1) (z : Int32 × Int32 × Int32) : BH T n q.1.2.2.1 (Y_nx T n q.1, z) := ⟨h.2.2, _, rfl⟩
theorem BH.vq {T : Nat → Int32} {n e : Nat} {q : Ps} {w : Int32} (h : BH T n e q) : VQ q (Z_val T n e w) := by
  obtain ⟨-, v, hv⟩ := h
  intro hk
  rw [hv] at hk ⊢
  exact VR_val hk
theorem BH.tw {T : Nat → Int32} {n e : Nat} {q : Ps} (h : BH T n e q) : TW T n q.1 := by
  obtain ⟨h0, v, hv⟩ := h
  rw [hv]
  exact TW_tok h0
theorem BH.rq {T : Nat → Int32} {n e cm : Nat} {q : Ps} {w : Int32} {c0 : Nat → Int32} (h : BH T n e q) : rM c0 cm (X_tok T n e).2.2 (X_tok T n e).1 (X_tok T n e).2.1 w q.2.2.1 q.2.2.2 = rQ c0 cm q w := by
  obtain ⟨-, v, hv⟩ := h
  unfold rQ
  rw [hv]
theorem isw_inj {T : Nat → Int32} {k s e : Nat} {l l' : List Int32} (h : X_isw T k s e l = true) (h' : X_isw T k s e l' = true) : l = l' := by
  unfold X_isw at h h'
  simp only [Bool.and_eq_true, decide_eq_true_eq, List.all_eq_true, List.mem_range] at h h'
  obtain ⟨-, h1, h2⟩ := h
  obtain ⟨-, h1', h2'⟩ := h'
  refine List.ext_getElem (by omega) fun j hj hj' => ?_
  have a := h2 j hj
  have b := h2' j hj'
  rw [List.getD_eq_getElem?_getD, List.getElem?_eq_getElem hj] at a
  rw [List.getD_eq_getElem?_getD, List.getElem?_eq_getElem hj'] at b
  exact a.symm.trans b
theorem strB_inj : ∀ a, a < 10 → ∀ b, b < 10 → strB.getD a [] = strB.getD b [] → a = b := by decide +kernel
theorem Y_isw_one {T : Nat → Int32} {t : Tk} {a b : Nat} (ha : a < 10) (hb : b < 10) (h : Y_isw T t a = true) (h' : Y_isw T t b = true) : a = b := strB_inj a ha b hb (isw_inj h h')
def Z_word (T : Nat → Int32) (t : Tk) : Nat → Nat → Nat
  | 0, _ => 9
  | d + 1, w => if Y_isw T t (w + 1) = true then w else Z_word T t d (w + 1)
theorem Z_word_eq {T : Nat → Int32} {t : Tk} {w0 : Nat} (h0 : w0 < 9) (h : Y_isw T t (w0 + 1) = true) : ∀ d w, w ≤ w0 → w + d = 9 → Z_word T t d w = w0
  | 0, w, h1, h2 => by omega
  | d + 1, w, h1, h2 => by
    rw [Z_word]
    split
    · next z => have := Y_isw_one (by omega) (by omega) z h; omega
    · next z =>
      have : w ≠ w0 := fun e => z (e ▸ h)
      exact Z_word_eq h0 h d (w + 1) (by omega) (by omega)
theorem Z_word_is {T : Nat → Int32} {t : Tk} : ∀ d w, w + d = 9 → Z_word T t d w < 9 → Y_isw T t (Z_word T t d w + 1) = true
  | 0, w, h1, h2 => absurd h2 (by rw [Z_word]; omega)
  | d + 1, w, h1, h2 => by
    rw [Z_word] at h2 ⊢
    split
    · next z => exact z
    · next z => rw [if_neg z] at h2; exact Z_word_is d (w + 1) (by omega) h2
theorem Z_word_le {T : Nat → Int32} {t : Tk} : ∀ d w, w + d = 9 → Z_word T t d w ≤ 9
  | 0, w, h1 => Nat.le_refl 9
  | d + 1, w, h1 => by
    rw [Z_word]
    split
    · omega
    · exact Z_word_le d (w + 1) (by omega)
theorem Z_word_iff {T : Nat → Int32} {t : Tk} {w0 : Nat} (h0 : w0 < 9) : Z_word T t 9 0 = w0 ↔ Y_isw T t (w0 + 1) = true := ⟨fun h => h ▸ Z_word_is 9 0 rfl (by omega), fun h => Z_word_eq h0 h 9 0 (by omega) rfl⟩
theorem wd_ok : ∀ w, w < 9 → ∀ i, i < 8 → (strB.getD (w + 1) []).length ≤ 8 ∧ wdT.getD (8 * w + i) 0 = (if i < (strB.getD (w + 1) []).length then (strB.getD (w + 1) []).getD i 0 else 32) ∧ (i < (strB.getD (w + 1) []).length → (strB.getD (w + 1) []).getD i 0 ≠ 32) := by decide +kernel
theorem X_let32 {c : Int32} (h : X_let c = true) : c ≠ 32 := fun e => by subst e; exact absurd h (by decide)
/-- the model's look at a word -/
theorem wn_ok {T : Nat → Int32} {n w : Nat} {t : Tk} (ht : TW T n t) (h1 : t.1 = 1) (hw : w < 9) : Y_isw T t (w + 1) = true ↔ (t.2.2.1 - t.2.1 ≤ 8 ∧ ∀ i, i < 8 → (i < t.2.2.1 - t.2.1 → T (t.2.1 + i) = wdT.getD (8 * w + i) 0) ∧ (¬ i < t.2.2.1 - t.2.1 → wdT.getD (8 * w + i) 0 = 32)) := by
  have hl := (wd_ok w hw 0 (by omega)).1
  unfold Y_isw X_isw
  simp only [Bool.and_eq_true, decide_eq_true_eq, List.all_eq_true, List.mem_range]
  constructor
  · rintro ⟨-, h2, h3⟩
    refine ⟨by omega, fun i hi => ⟨fun h4 => ?_, fun h4 => ?_⟩⟩
    · rw [(wd_ok w hw i hi).2.1, if_pos (by omega)]
      exact h3 i (by omega)
    · rw [(wd_ok w hw i hi).2.1, if_neg (by omega)]
  · rintro ⟨h2, h3⟩
    have hlen : t.2.2.1 - t.2.1 = (strB.getD (w + 1) []).length := by
      rcases Nat.lt_trichotomy (t.2.2.1 - t.2.1) (strB.getD (w + 1) []).length with h | h | h
      · have a := (h3 (t.2.2.1 - t.2.1) (by omega)).2 (by omega)
        have b := wd_ok w hw (t.2.2.1 - t.2.1) (by omega)
        rw [b.2.1, if_pos h] at a
        exact absurd a (b.2.2 h)
      · exact h
      · have a := (h3 (strB.getD (w + 1) []).length (by omega)).1 h
        have b := wd_ok w hw (strB.getD (w + 1) []).length (by omega)
        rw [b.2.1, if_neg (by omega)] at a
        exact absurd a (X_let32 (ht.2 h1 _ (by omega) (by omega)))
    refine ⟨h1, hlen, fun j hj => ?_⟩
    have a := (h3 j (by omega)).1 (by omega)
    rw [(wd_ok w hw j (by omega)).2.1, if_pos hj] at a
    exact a
theorem g_cVx {E : En} {M Z : Mt} {pc : Nat} {lv : List (Nat × Value)} {st st0 As : List Value} {h : Hp} {k n : Nat} {P : Option Value → Hp → Prop} {X : String → Hp → Prop} {idx na ci b : Nat} {q : vw_C} {τ : Type} {r : τ → Int32} {H : τ → Hp} {C : τ → Prop} (hd : decode (mC M) pc = .ok (.invokevirtual idx, 3)) (hh : mHh M = []) (hz : MV Z na) (hs : ST M idx Z) (hq : cls[ci]? = some q) (hq1 : q.1 = (mY Z).cls) (hci : ci < 19) (hst : st0 = As.reverse ++ .ref b :: st) (hna : As.length = na) (hcat : (st.map fun v => v.category).sum ≤ 8) (hb : hK h b = ci + 1)
    (hct : CT E Z (.ref b :: As) h 0 0 (fun v h' => ∃ z : τ, C z ∧ v = some (.int (r z)) ∧ h' = H z) noX) (kk : ∀ z, C z → G E M (pc + 3) lv (.int (r z) :: st) (H z) k n P X) : G E M pc lv st0 h k n P X :=
  g_callV hd hh hz hs hq hq1 hci hb hst hna hcat hct (fun _ _ z => z.elim) (fun v h1 ⟨z, c, e1, e2⟩ => by subst e1; subst e2; exact kk z c)
theorem cm_MO_inB {E : En} {h : Hp} {v lo hi : Int32} : CR E m_MO_in [.int v, .int lo, .int hi] h (some (.int (bI (decide (lo ≤ v) && decide (v ≤ hi))))) h := by
  by_cases h1 : lo ≤ v
  · by_cases h2 : v ≤ hi
    · rw [decide_eq_true h1, decide_eq_true h2]; exact cm_MO_in_t h1 h2
    · rw [decide_eq_true h1, decide_eq_false h2]; exact cm_MO_in_f (Or.inr (Int32.not_le.mp h2))
  · rw [decide_eq_false h1, Bool.false_and]; exact cm_MO_in_f (Or.inl (Int32.not_le.mp h1))
theorem d_MO_byteAt_0 : decode (mC m_MO_byteAt) 0 = .ok (.iload_n 1, 1) := by decide +kernel
theorem d_MO_byteAt_1 : decode (mC m_MO_byteAt) 1 = .ok (.aload_n 0, 1) := by decide +kernel
theorem d_MO_byteAt_2 : decode (mC m_MO_byteAt) 2 = .ok (.getfield 151, 3) := by decide +kernel
theorem d_MO_byteAt_5 : decode (mC m_MO_byteAt) 5 = .ok (.if_icmp .ge 12, 3) := by decide +kernel
theorem d_MO_byteAt_8 : decode (mC m_MO_byteAt) 8 = .ok (.aload_n 0, 1) := by decide +kernel
theorem d_MO_byteAt_9 : decode (mC m_MO_byteAt) 9 = .ok (.getfield 17, 3) := by decide +kernel
theorem d_MO_byteAt_12 : decode (mC m_MO_byteAt) 12 = .ok (.iload_n 1, 1) := by decide +kernel
theorem d_MO_byteAt_13 : decode (mC m_MO_byteAt) 13 = .ok (.baload, 1) := by decide +kernel
theorem d_MO_byteAt_14 : decode (mC m_MO_byteAt) 14 = .ok (.goto 6, 3) := by decide +kernel
theorem d_MO_byteAt_17 : decode (mC m_MO_byteAt) 17 = .ok (.sipush (-1000), 3) := by decide +kernel
theorem d_MO_byteAt_20 : decode (mC m_MO_byteAt) 20 = .ok (.ireturn, 1) := by decide +kernel
theorem d_MO_isLetter_0 : decode (mC m_MO_isLetter) 0 = .ok (.aload_n 0, 1) := by decide +kernel
theorem d_MO_isLetter_1 : decode (mC m_MO_isLetter) 1 = .ok (.iload_n 1, 1) := by decide +kernel
theorem d_MO_isLetter_2 : decode (mC m_MO_isLetter) 2 = .ok (.invokevirtual 168, 3) := by decide +kernel
theorem d_MO_isLetter_5 : decode (mC m_MO_isLetter) 5 = .ok (.bipush 97, 2) := by decide +kernel
theorem d_MO_isLetter_7 : decode (mC m_MO_isLetter) 7 = .ok (.bipush 122, 2) := by decide +kernel
theorem d_MO_isLetter_9 : decode (mC m_MO_isLetter) 9 = .ok (.invokestatic 161, 3) := by decide +kernel
theorem d_MO_isLetter_12 : decode (mC m_MO_isLetter) 12 = .ok (.ireturn, 1) := by decide +kernel
theorem d_MO_isDigit_0 : decode (mC m_MO_isDigit) 0 = .ok (.aload_n 0, 1) := by decide +kernel
theorem d_MO_isDigit_1 : decode (mC m_MO_isDigit) 1 = .ok (.iload_n 1, 1) := by decide +kernel
theorem d_MO_isDigit_2 : decode (mC m_MO_isDigit) 2 = .ok (.invokevirtual 168, 3) := by decide +kernel
theorem d_MO_isDigit_5 : decode (mC m_MO_isDigit) 5 = .ok (.bipush 48, 2) := by decide +kernel
theorem d_MO_isDigit_7 : decode (mC m_MO_isDigit) 7 = .ok (.bipush 57, 2) := by decide +kernel
theorem d_MO_isDigit_9 : decode (mC m_MO_isDigit) 9 = .ok (.invokestatic 161, 3) := by decide +kernel
theorem d_MO_isDigit_12 : decode (mC m_MO_isDigit) 12 = .ok (.ireturn, 1) := by decide +kernel
theorem d_MO_readNumber_0 : decode (mC m_MO_readNumber) 0 = .ok (.aload_n 0, 1) := by decide +kernel
theorem d_MO_readNumber_1 : decode (mC m_MO_readNumber) 1 = .ok (.iconst 0, 1) := by decide +kernel
theorem d_MO_readNumber_2 : decode (mC m_MO_readNumber) 2 = .ok (.putfield 171, 3) := by decide +kernel
theorem d_MO_readNumber_5 : decode (mC m_MO_readNumber) 5 = .ok (.aload_n 0, 1) := by decide +kernel
theorem d_MO_readNumber_6 : decode (mC m_MO_readNumber) 6 = .ok (.aload_n 0, 1) := by decide +kernel
theorem d_MO_readNumber_7 : decode (mC m_MO_readNumber) 7 = .ok (.getfield 174, 3) := by decide +kernel
theorem d_MO_readNumber_10 : decode (mC m_MO_readNumber) 10 = .ok (.invokevirtual 177, 3) := by decide +kernel
theorem d_MO_readNumber_13 : decode (mC m_MO_readNumber) 13 = .ok (.ifCond .eq 55, 3) := by decide +kernel
theorem d_MO_readNumber_16 : decode (mC m_MO_readNumber) 16 = .ok (.aload_n 0, 1) := by decide +kernel
theorem d_MO_readNumber_17 : decode (mC m_MO_readNumber) 17 = .ok (.aload_n 0, 1) := by decide +kernel
theorem d_MO_readNumber_18 : decode (mC m_MO_readNumber) 18 = .ok (.getfield 171, 3) := by decide +kernel
theorem d_MO_readNumber_21 : decode (mC m_MO_readNumber) 21 = .ok (.bipush 10, 2) := by decide +kernel
theorem d_MO_readNumber_23 : decode (mC m_MO_readNumber) 23 = .ok (.imul, 1) := by decide +kernel
theorem d_MO_readNumber_24 : decode (mC m_MO_readNumber) 24 = .ok (.aload_n 0, 1) := by decide +kernel
theorem d_MO_readNumber_25 : decode (mC m_MO_readNumber) 25 = .ok (.getfield 17, 3) := by decide +kernel
theorem d_MO_readNumber_28 : decode (mC m_MO_readNumber) 28 = .ok (.aload_n 0, 1) := by decide +kernel
theorem d_MO_readNumber_29 : decode (mC m_MO_readNumber) 29 = .ok (.getfield 174, 3) := by decide +kernel
theorem d_MO_readNumber_32 : decode (mC m_MO_readNumber) 32 = .ok (.baload, 1) := by decide +kernel
theorem d_MO_readNumber_33 : decode (mC m_MO_readNumber) 33 = .ok (.iadd, 1) := by decide +kernel
theorem d_MO_readNumber_34 : decode (mC m_MO_readNumber) 34 = .ok (.bipush 48, 2) := by decide +kernel
theorem d_MO_readNumber_36 : decode (mC m_MO_readNumber) 36 = .ok (.isub, 1) := by decide +kernel
theorem d_MO_readNumber_37 : decode (mC m_MO_readNumber) 37 = .ok (.putfield 171, 3) := by decide +kernel
theorem d_MO_readNumber_40 : decode (mC m_MO_readNumber) 40 = .ok (.aload_n 0, 1) := by decide +kernel
theorem d_MO_readNumber_41 : decode (mC m_MO_readNumber) 41 = .ok (.getfield 171, 3) := by decide +kernel
theorem d_MO_readNumber_44 : decode (mC m_MO_readNumber) 44 = .ok (.ldc 180, 2) := by decide +kernel
theorem d_MO_readNumber_46 : decode (mC m_MO_readNumber) 46 = .ok (.if_icmp .le 9, 3) := by decide +kernel
theorem d_MO_readNumber_49 : decode (mC m_MO_readNumber) 49 = .ok (.aload_n 0, 1) := by decide +kernel
theorem d_MO_readNumber_50 : decode (mC m_MO_readNumber) 50 = .ok (.ldc 180, 2) := by decide +kernel
theorem d_MO_readNumber_52 : decode (mC m_MO_readNumber) 52 = .ok (.putfield 171, 3) := by decide +kernel
theorem d_MO_readNumber_55 : decode (mC m_MO_readNumber) 55 = .ok (.aload_n 0, 1) := by decide +kernel
theorem d_MO_readNumber_56 : decode (mC m_MO_readNumber) 56 = .ok (.dup, 1) := by decide +kernel
theorem d_MO_readNumber_57 : decode (mC m_MO_readNumber) 57 = .ok (.getfield 174, 3) := by decide +kernel
theorem d_MO_readNumber_60 : decode (mC m_MO_readNumber) 60 = .ok (.iconst 1, 1) := by decide +kernel
theorem d_MO_readNumber_61 : decode (mC m_MO_readNumber) 61 = .ok (.iadd, 1) := by decide +kernel
theorem d_MO_readNumber_62 : decode (mC m_MO_readNumber) 62 = .ok (.putfield 174, 3) := by decide +kernel
theorem d_MO_readNumber_65 : decode (mC m_MO_readNumber) 65 = .ok (.goto (-60), 3) := by decide +kernel
theorem d_MO_readNumber_68 : decode (mC m_MO_readNumber) 68 = .ok (.return_, 1) := by decide +kernel
theorem d_MO_readToken_0 : decode (mC m_MO_readToken) 0 = .ok (.aload_n 0, 1) := by decide +kernel
theorem d_MO_readToken_1 : decode (mC m_MO_readToken) 1 = .ok (.aload_n 0, 1) := by decide +kernel
theorem d_MO_readToken_2 : decode (mC m_MO_readToken) 2 = .ok (.getfield 174, 3) := by decide +kernel
theorem d_MO_readToken_5 : decode (mC m_MO_readToken) 5 = .ok (.invokevirtual 168, 3) := by decide +kernel
theorem d_MO_readToken_8 : decode (mC m_MO_readToken) 8 = .ok (.bipush 32, 2) := by decide +kernel
theorem d_MO_readToken_10 : decode (mC m_MO_readToken) 10 = .ok (.if_icmp .ne 16, 3) := by decide +kernel
theorem d_MO_readToken_13 : decode (mC m_MO_readToken) 13 = .ok (.aload_n 0, 1) := by decide +kernel
theorem d_MO_readToken_14 : decode (mC m_MO_readToken) 14 = .ok (.dup, 1) := by decide +kernel
theorem d_MO_readToken_15 : decode (mC m_MO_readToken) 15 = .ok (.getfield 174, 3) := by decide +kernel
theorem d_MO_readToken_18 : decode (mC m_MO_readToken) 18 = .ok (.iconst 1, 1) := by decide +kernel
theorem d_MO_readToken_19 : decode (mC m_MO_readToken) 19 = .ok (.iadd, 1) := by decide +kernel
theorem d_MO_readToken_20 : decode (mC m_MO_readToken) 20 = .ok (.putfield 174, 3) := by decide +kernel
theorem d_MO_readToken_23 : decode (mC m_MO_readToken) 23 = .ok (.goto (-23), 3) := by decide +kernel
theorem d_MO_readToken_26 : decode (mC m_MO_readToken) 26 = .ok (.aload_n 0, 1) := by decide +kernel
theorem d_MO_readToken_27 : decode (mC m_MO_readToken) 27 = .ok (.aload_n 0, 1) := by decide +kernel
theorem d_MO_readToken_28 : decode (mC m_MO_readToken) 28 = .ok (.getfield 174, 3) := by decide +kernel
theorem d_MO_readToken_31 : decode (mC m_MO_readToken) 31 = .ok (.putfield 181, 3) := by decide +kernel
theorem d_MO_readToken_34 : decode (mC m_MO_readToken) 34 = .ok (.aload_n 0, 1) := by decide +kernel
theorem d_MO_readToken_35 : decode (mC m_MO_readToken) 35 = .ok (.getfield 174, 3) := by decide +kernel
theorem d_MO_readToken_38 : decode (mC m_MO_readToken) 38 = .ok (.aload_n 0, 1) := by decide +kernel
theorem d_MO_readToken_39 : decode (mC m_MO_readToken) 39 = .ok (.getfield 151, 3) := by decide +kernel
theorem d_MO_readToken_42 : decode (mC m_MO_readToken) 42 = .ok (.if_icmp .ne 11, 3) := by decide +kernel
theorem d_MO_readToken_45 : decode (mC m_MO_readToken) 45 = .ok (.aload_n 0, 1) := by decide +kernel
theorem d_MO_readToken_46 : decode (mC m_MO_readToken) 46 = .ok (.iconst 0, 1) := by decide +kernel
theorem d_MO_readToken_47 : decode (mC m_MO_readToken) 47 = .ok (.putfield 184, 3) := by decide +kernel
theorem d_MO_readToken_50 : decode (mC m_MO_readToken) 50 = .ok (.goto 98, 3) := by decide +kernel
theorem d_MO_readToken_53 : decode (mC m_MO_readToken) 53 = .ok (.aload_n 0, 1) := by decide +kernel
theorem d_MO_readToken_54 : decode (mC m_MO_readToken) 54 = .ok (.aload_n 0, 1) := by decide +kernel
theorem d_MO_readToken_55 : decode (mC m_MO_readToken) 55 = .ok (.getfield 174, 3) := by decide +kernel
theorem d_MO_readToken_58 : decode (mC m_MO_readToken) 58 = .ok (.invokevirtual 187, 3) := by decide +kernel
theorem d_MO_readToken_61 : decode (mC m_MO_readToken) 61 = .ok (.ifCond .eq 32, 3) := by decide +kernel
theorem d_MO_readToken_64 : decode (mC m_MO_readToken) 64 = .ok (.aload_n 0, 1) := by decide +kernel
theorem d_MO_readToken_65 : decode (mC m_MO_readToken) 65 = .ok (.iconst 1, 1) := by decide +kernel
theorem d_MO_readToken_66 : decode (mC m_MO_readToken) 66 = .ok (.putfield 184, 3) := by decide +kernel
theorem d_MO_readToken_69 : decode (mC m_MO_readToken) 69 = .ok (.aload_n 0, 1) := by decide +kernel
theorem d_MO_readToken_70 : decode (mC m_MO_readToken) 70 = .ok (.aload_n 0, 1) := by decide +kernel
theorem d_MO_readToken_71 : decode (mC m_MO_readToken) 71 = .ok (.getfield 174, 3) := by decide +kernel
theorem d_MO_readToken_74 : decode (mC m_MO_readToken) 74 = .ok (.invokevirtual 187, 3) := by decide +kernel
theorem d_MO_readToken_77 : decode (mC m_MO_readToken) 77 = .ok (.ifCond .eq 71, 3) := by decide +kernel
theorem d_MO_readToken_80 : decode (mC m_MO_readToken) 80 = .ok (.aload_n 0, 1) := by decide +kernel
theorem d_MO_readToken_81 : decode (mC m_MO_readToken) 81 = .ok (.dup, 1) := by decide +kernel
theorem d_MO_readToken_82 : decode (mC m_MO_readToken) 82 = .ok (.getfield 174, 3) := by decide +kernel
theorem d_MO_readToken_85 : decode (mC m_MO_readToken) 85 = .ok (.iconst 1, 1) := by decide +kernel
theorem d_MO_readToken_86 : decode (mC m_MO_readToken) 86 = .ok (.iadd, 1) := by decide +kernel
theorem d_MO_readToken_87 : decode (mC m_MO_readToken) 87 = .ok (.putfield 174, 3) := by decide +kernel
theorem d_MO_readToken_90 : decode (mC m_MO_readToken) 90 = .ok (.goto (-21), 3) := by decide +kernel
theorem d_MO_readToken_93 : decode (mC m_MO_readToken) 93 = .ok (.aload_n 0, 1) := by decide +kernel
theorem d_MO_readToken_94 : decode (mC m_MO_readToken) 94 = .ok (.aload_n 0, 1) := by decide +kernel
theorem d_MO_readToken_95 : decode (mC m_MO_readToken) 95 = .ok (.getfield 174, 3) := by decide +kernel
theorem d_MO_readToken_98 : decode (mC m_MO_readToken) 98 = .ok (.invokevirtual 177, 3) := by decide +kernel
theorem d_MO_readToken_101 : decode (mC m_MO_readToken) 101 = .ok (.ifCond .eq 15, 3) := by decide +kernel
theorem d_MO_readToken_104 : decode (mC m_MO_readToken) 104 = .ok (.aload_n 0, 1) := by decide +kernel
theorem d_MO_readToken_105 : decode (mC m_MO_readToken) 105 = .ok (.iconst 2, 1) := by decide +kernel
theorem d_MO_readToken_106 : decode (mC m_MO_readToken) 106 = .ok (.putfield 184, 3) := by decide +kernel
theorem d_MO_readToken_109 : decode (mC m_MO_readToken) 109 = .ok (.aload_n 0, 1) := by decide +kernel
theorem d_MO_readToken_110 : decode (mC m_MO_readToken) 110 = .ok (.invokevirtual 190, 3) := by decide +kernel
theorem d_MO_readToken_113 : decode (mC m_MO_readToken) 113 = .ok (.goto 35, 3) := by decide +kernel
theorem d_MO_readToken_116 : decode (mC m_MO_readToken) 116 = .ok (.aload_n 0, 1) := by decide +kernel
theorem d_MO_readToken_117 : decode (mC m_MO_readToken) 117 = .ok (.aload_n 0, 1) := by decide +kernel
theorem d_MO_readToken_118 : decode (mC m_MO_readToken) 118 = .ok (.aload_n 0, 1) := by decide +kernel
theorem d_MO_readToken_119 : decode (mC m_MO_readToken) 119 = .ok (.getfield 174, 3) := by decide +kernel
theorem d_MO_readToken_122 : decode (mC m_MO_readToken) 122 = .ok (.invokevirtual 168, 3) := by decide +kernel
theorem d_MO_readToken_125 : decode (mC m_MO_readToken) 125 = .ok (.bipush 59, 2) := by decide +kernel
theorem d_MO_readToken_127 : decode (mC m_MO_readToken) 127 = .ok (.if_icmp .ne 7, 3) := by decide +kernel
theorem d_MO_readToken_130 : decode (mC m_MO_readToken) 130 = .ok (.iconst 3, 1) := by decide +kernel
theorem d_MO_readToken_131 : decode (mC m_MO_readToken) 131 = .ok (.goto 4, 3) := by decide +kernel
theorem d_MO_readToken_134 : decode (mC m_MO_readToken) 134 = .ok (.iconst 4, 1) := by decide +kernel
theorem d_MO_readToken_135 : decode (mC m_MO_readToken) 135 = .ok (.putfield 184, 3) := by decide +kernel
theorem d_MO_readToken_138 : decode (mC m_MO_readToken) 138 = .ok (.aload_n 0, 1) := by decide +kernel
theorem d_MO_readToken_139 : decode (mC m_MO_readToken) 139 = .ok (.dup, 1) := by decide +kernel
theorem d_MO_readToken_140 : decode (mC m_MO_readToken) 140 = .ok (.getfield 174, 3) := by decide +kernel
theorem d_MO_readToken_143 : decode (mC m_MO_readToken) 143 = .ok (.iconst 1, 1) := by decide +kernel
theorem d_MO_readToken_144 : decode (mC m_MO_readToken) 144 = .ok (.iadd, 1) := by decide +kernel
theorem d_MO_readToken_145 : decode (mC m_MO_readToken) 145 = .ok (.putfield 174, 3) := by decide +kernel
theorem d_MO_readToken_148 : decode (mC m_MO_readToken) 148 = .ok (.return_, 1) := by decide +kernel
theorem d_MO_isWordNumber_0 : decode (mC m_MO_isWordNumber) 0 = .ok (.aload_n 0, 1) := by decide +kernel
theorem d_MO_isWordNumber_1 : decode (mC m_MO_isWordNumber) 1 = .ok (.getfield 174, 3) := by decide +kernel
theorem d_MO_isWordNumber_4 : decode (mC m_MO_isWordNumber) 4 = .ok (.aload_n 0, 1) := by decide +kernel
theorem d_MO_isWordNumber_5 : decode (mC m_MO_isWordNumber) 5 = .ok (.getfield 181, 3) := by decide +kernel
theorem d_MO_isWordNumber_8 : decode (mC m_MO_isWordNumber) 8 = .ok (.isub, 1) := by decide +kernel
theorem d_MO_isWordNumber_9 : decode (mC m_MO_isWordNumber) 9 = .ok (.istore_n 2, 1) := by decide +kernel
theorem d_MO_isWordNumber_10 : decode (mC m_MO_isWordNumber) 10 = .ok (.iload_n 2, 1) := by decide +kernel
theorem d_MO_isWordNumber_11 : decode (mC m_MO_isWordNumber) 11 = .ok (.bipush 8, 2) := by decide +kernel
theorem d_MO_isWordNumber_13 : decode (mC m_MO_isWordNumber) 13 = .ok (.if_icmp .le 5, 3) := by decide +kernel
theorem d_MO_isWordNumber_16 : decode (mC m_MO_isWordNumber) 16 = .ok (.iconst 0, 1) := by decide +kernel
theorem d_MO_isWordNumber_17 : decode (mC m_MO_isWordNumber) 17 = .ok (.ireturn, 1) := by decide +kernel
theorem d_MO_isWordNumber_18 : decode (mC m_MO_isWordNumber) 18 = .ok (.iconst 0, 1) := by decide +kernel
theorem d_MO_isWordNumber_19 : decode (mC m_MO_isWordNumber) 19 = .ok (.istore_n 3, 1) := by decide +kernel
theorem d_MO_isWordNumber_20 : decode (mC m_MO_isWordNumber) 20 = .ok (.iload_n 3, 1) := by decide +kernel
theorem d_MO_isWordNumber_21 : decode (mC m_MO_isWordNumber) 21 = .ok (.bipush 8, 2) := by decide +kernel
theorem d_MO_isWordNumber_23 : decode (mC m_MO_isWordNumber) 23 = .ok (.if_icmp .ge 55, 3) := by decide +kernel
theorem d_MO_isWordNumber_26 : decode (mC m_MO_isWordNumber) 26 = .ok (.aload_n 0, 1) := by decide +kernel
theorem d_MO_isWordNumber_27 : decode (mC m_MO_isWordNumber) 27 = .ok (.getfield 34, 3) := by decide +kernel
theorem d_MO_isWordNumber_30 : decode (mC m_MO_isWordNumber) 30 = .ok (.bipush 8, 2) := by decide +kernel
theorem d_MO_isWordNumber_32 : decode (mC m_MO_isWordNumber) 32 = .ok (.iload_n 1, 1) := by decide +kernel
theorem d_MO_isWordNumber_33 : decode (mC m_MO_isWordNumber) 33 = .ok (.imul, 1) := by decide +kernel
theorem d_MO_isWordNumber_34 : decode (mC m_MO_isWordNumber) 34 = .ok (.iload_n 3, 1) := by decide +kernel
theorem d_MO_isWordNumber_35 : decode (mC m_MO_isWordNumber) 35 = .ok (.iadd, 1) := by decide +kernel
theorem d_MO_isWordNumber_36 : decode (mC m_MO_isWordNumber) 36 = .ok (.caload, 1) := by decide +kernel
theorem d_MO_isWordNumber_37 : decode (mC m_MO_isWordNumber) 37 = .ok (.istore 4, 2) := by decide +kernel
theorem d_MO_isWordNumber_39 : decode (mC m_MO_isWordNumber) 39 = .ok (.iload_n 3, 1) := by decide +kernel
theorem d_MO_isWordNumber_40 : decode (mC m_MO_isWordNumber) 40 = .ok (.iload_n 2, 1) := by decide +kernel
theorem d_MO_isWordNumber_41 : decode (mC m_MO_isWordNumber) 41 = .ok (.if_icmp .ge 22, 3) := by decide +kernel
theorem d_MO_isWordNumber_44 : decode (mC m_MO_isWordNumber) 44 = .ok (.aload_n 0, 1) := by decide +kernel
theorem d_MO_isWordNumber_45 : decode (mC m_MO_isWordNumber) 45 = .ok (.getfield 17, 3) := by decide +kernel
theorem d_MO_isWordNumber_48 : decode (mC m_MO_isWordNumber) 48 = .ok (.aload_n 0, 1) := by decide +kernel
theorem d_MO_isWordNumber_49 : decode (mC m_MO_isWordNumber) 49 = .ok (.getfield 181, 3) := by decide +kernel
theorem d_MO_isWordNumber_52 : decode (mC m_MO_isWordNumber) 52 = .ok (.iload_n 3, 1) := by decide +kernel
theorem d_MO_isWordNumber_53 : decode (mC m_MO_isWordNumber) 53 = .ok (.iadd, 1) := by decide +kernel
theorem d_MO_isWordNumber_54 : decode (mC m_MO_isWordNumber) 54 = .ok (.baload, 1) := by decide +kernel
theorem d_MO_isWordNumber_55 : decode (mC m_MO_isWordNumber) 55 = .ok (.iload 4, 2) := by decide +kernel
theorem d_MO_isWordNumber_57 : decode (mC m_MO_isWordNumber) 57 = .ok (.if_icmp .eq 15, 3) := by decide +kernel
theorem d_MO_isWordNumber_60 : decode (mC m_MO_isWordNumber) 60 = .ok (.goto 10, 3) := by decide +kernel
theorem d_MO_isWordNumber_63 : decode (mC m_MO_isWordNumber) 63 = .ok (.iload 4, 2) := by decide +kernel
theorem d_MO_isWordNumber_65 : decode (mC m_MO_isWordNumber) 65 = .ok (.bipush 32, 2) := by decide +kernel
theorem d_MO_isWordNumber_67 : decode (mC m_MO_isWordNumber) 67 = .ok (.if_icmp .eq 5, 3) := by decide +kernel
theorem d_MO_isWordNumber_70 : decode (mC m_MO_isWordNumber) 70 = .ok (.iconst 0, 1) := by decide +kernel
theorem d_MO_isWordNumber_71 : decode (mC m_MO_isWordNumber) 71 = .ok (.ireturn, 1) := by decide +kernel
theorem d_MO_isWordNumber_72 : decode (mC m_MO_isWordNumber) 72 = .ok (.iinc 3 1, 3) := by decide +kernel
theorem d_MO_isWordNumber_75 : decode (mC m_MO_isWordNumber) 75 = .ok (.goto (-55), 3) := by decide +kernel
theorem d_MO_isWordNumber_78 : decode (mC m_MO_isWordNumber) 78 = .ok (.iconst 1, 1) := by decide +kernel
theorem d_MO_isWordNumber_79 : decode (mC m_MO_isWordNumber) 79 = .ok (.ireturn, 1) := by decide +kernel
theorem d_MO_wordOf_0 : decode (mC m_MO_wordOf) 0 = .ok (.aload_n 0, 1) := by decide +kernel
theorem d_MO_wordOf_1 : decode (mC m_MO_wordOf) 1 = .ok (.getfield 184, 3) := by decide +kernel
theorem d_MO_wordOf_4 : decode (mC m_MO_wordOf) 4 = .ok (.iconst 1, 1) := by decide +kernel
theorem d_MO_wordOf_5 : decode (mC m_MO_wordOf) 5 = .ok (.if_icmp .eq 6, 3) := by decide +kernel
theorem d_MO_wordOf_8 : decode (mC m_MO_wordOf) 8 = .ok (.bipush 9, 2) := by decide +kernel
theorem d_MO_wordOf_10 : decode (mC m_MO_wordOf) 10 = .ok (.ireturn, 1) := by decide +kernel
theorem d_MO_wordOf_11 : decode (mC m_MO_wordOf) 11 = .ok (.iconst 0, 1) := by decide +kernel
theorem d_MO_wordOf_12 : decode (mC m_MO_wordOf) 12 = .ok (.istore_n 1, 1) := by decide +kernel
theorem d_MO_wordOf_13 : decode (mC m_MO_wordOf) 13 = .ok (.iload_n 1, 1) := by decide +kernel
theorem d_MO_wordOf_14 : decode (mC m_MO_wordOf) 14 = .ok (.bipush 9, 2) := by decide +kernel
theorem d_MO_wordOf_16 : decode (mC m_MO_wordOf) 16 = .ok (.if_icmp .ge 19, 3) := by decide +kernel
theorem d_MO_wordOf_19 : decode (mC m_MO_wordOf) 19 = .ok (.aload_n 0, 1) := by decide +kernel
theorem d_MO_wordOf_20 : decode (mC m_MO_wordOf) 20 = .ok (.iload_n 1, 1) := by decide +kernel
theorem d_MO_wordOf_21 : decode (mC m_MO_wordOf) 21 = .ok (.invokevirtual 193, 3) := by decide +kernel
theorem d_MO_wordOf_24 : decode (mC m_MO_wordOf) 24 = .ok (.ifCond .eq 5, 3) := by decide +kernel
theorem d_MO_wordOf_27 : decode (mC m_MO_wordOf) 27 = .ok (.iload_n 1, 1) := by decide +kernel
theorem d_MO_wordOf_28 : decode (mC m_MO_wordOf) 28 = .ok (.ireturn, 1) := by decide +kernel
theorem d_MO_wordOf_29 : decode (mC m_MO_wordOf) 29 = .ok (.iinc 1 1, 3) := by decide +kernel
theorem d_MO_wordOf_32 : decode (mC m_MO_wordOf) 32 = .ok (.goto (-19), 3) := by decide +kernel
theorem d_MO_wordOf_35 : decode (mC m_MO_wordOf) 35 = .ok (.bipush 9, 2) := by decide +kernel
theorem d_MO_wordOf_37 : decode (mC m_MO_wordOf) 37 = .ok (.ireturn, 1) := by decide +kernel
theorem d_MO_fails_0 : decode (mC m_MO_fails) 0 = .ok (.aload_n 0, 1) := by decide +kernel
theorem d_MO_fails_1 : decode (mC m_MO_fails) 1 = .ok (.iload_n 1, 1) := by decide +kernel
theorem d_MO_fails_2 : decode (mC m_MO_fails) 2 = .ok (.putfield 165, 3) := by decide +kernel
theorem d_MO_fails_5 : decode (mC m_MO_fails) 5 = .ok (.aload_n 0, 1) := by decide +kernel
theorem d_MO_fails_6 : decode (mC m_MO_fails) 6 = .ok (.aload_n 0, 1) := by decide +kernel
theorem d_MO_fails_7 : decode (mC m_MO_fails) 7 = .ok (.getfield 181, 3) := by decide +kernel
theorem d_MO_fails_10 : decode (mC m_MO_fails) 10 = .ok (.putfield 21, 3) := by decide +kernel
theorem d_MO_fails_13 : decode (mC m_MO_fails) 13 = .ok (.iconst 1, 1) := by decide +kernel
theorem d_MO_fails_14 : decode (mC m_MO_fails) 14 = .ok (.ireturn, 1) := by decide +kernel
theorem d_MO_beginText_0 : decode (mC m_MO_beginText) 0 = .ok (.aload_n 0, 1) := by decide +kernel
theorem d_MO_beginText_1 : decode (mC m_MO_beginText) 1 = .ok (.iconst 0, 1) := by decide +kernel
theorem d_MO_beginText_2 : decode (mC m_MO_beginText) 2 = .ok (.putfield 174, 3) := by decide +kernel
theorem d_MO_beginText_5 : decode (mC m_MO_beginText) 5 = .ok (.aload_n 0, 1) := by decide +kernel
theorem d_MO_beginText_6 : decode (mC m_MO_beginText) 6 = .ok (.iconst 0, 1) := by decide +kernel
theorem d_MO_beginText_7 : decode (mC m_MO_beginText) 7 = .ok (.putfield 165, 3) := by decide +kernel
theorem d_MO_beginText_10 : decode (mC m_MO_beginText) 10 = .ok (.aload_n 0, 1) := by decide +kernel
theorem d_MO_beginText_11 : decode (mC m_MO_beginText) 11 = .ok (.iconst (-1), 1) := by decide +kernel
theorem d_MO_beginText_12 : decode (mC m_MO_beginText) 12 = .ok (.putfield 21, 3) := by decide +kernel
theorem d_MO_beginText_15 : decode (mC m_MO_beginText) 15 = .ok (.aload_n 0, 1) := by decide +kernel
theorem d_MO_beginText_16 : decode (mC m_MO_beginText) 16 = .ok (.iconst 0, 1) := by decide +kernel
theorem d_MO_beginText_17 : decode (mC m_MO_beginText) 17 = .ok (.putfield 196, 3) := by decide +kernel
theorem d_MO_beginText_20 : decode (mC m_MO_beginText) 20 = .ok (.aload_n 0, 1) := by decide +kernel
theorem d_MO_beginText_21 : decode (mC m_MO_beginText) 21 = .ok (.invokevirtual 199, 3) := by decide +kernel
theorem d_MO_beginText_24 : decode (mC m_MO_beginText) 24 = .ok (.return_, 1) := by decide +kernel
theorem d_MO_failsAtThis_0 : decode (mC m_MO_failsAtThis) 0 = .ok (.aload_n 0, 1) := by decide +kernel
theorem d_MO_failsAtThis_1 : decode (mC m_MO_failsAtThis) 1 = .ok (.getfield 184, 3) := by decide +kernel
theorem d_MO_failsAtThis_4 : decode (mC m_MO_failsAtThis) 4 = .ok (.iconst 2, 1) := by decide +kernel
theorem d_MO_failsAtThis_5 : decode (mC m_MO_failsAtThis) 5 = .ok (.if_icmp .eq 9, 3) := by decide +kernel
theorem d_MO_failsAtThis_8 : decode (mC m_MO_failsAtThis) 8 = .ok (.aload_n 0, 1) := by decide +kernel
theorem d_MO_failsAtThis_9 : decode (mC m_MO_failsAtThis) 9 = .ok (.iconst 1, 1) := by decide +kernel
theorem d_MO_failsAtThis_10 : decode (mC m_MO_failsAtThis) 10 = .ok (.invokevirtual 202, 3) := by decide +kernel
theorem d_MO_failsAtThis_13 : decode (mC m_MO_failsAtThis) 13 = .ok (.ireturn, 1) := by decide +kernel
theorem d_MO_failsAtThis_14 : decode (mC m_MO_failsAtThis) 14 = .ok (.aload_n 0, 1) := by decide +kernel
theorem d_MO_failsAtThis_15 : decode (mC m_MO_failsAtThis) 15 = .ok (.getfield 171, 3) := by decide +kernel
theorem d_MO_failsAtThis_18 : decode (mC m_MO_failsAtThis) 18 = .ok (.iload_n 2, 1) := by decide +kernel
theorem d_MO_failsAtThis_19 : decode (mC m_MO_failsAtThis) 19 = .ok (.iload_n 3, 1) := by decide +kernel
theorem d_MO_failsAtThis_20 : decode (mC m_MO_failsAtThis) 20 = .ok (.invokestatic 161, 3) := by decide +kernel
theorem d_MO_failsAtThis_23 : decode (mC m_MO_failsAtThis) 23 = .ok (.ifCond .ne 9, 3) := by decide +kernel
theorem d_MO_failsAtThis_26 : decode (mC m_MO_failsAtThis) 26 = .ok (.aload_n 0, 1) := by decide +kernel
theorem d_MO_failsAtThis_27 : decode (mC m_MO_failsAtThis) 27 = .ok (.iconst 2, 1) := by decide +kernel
theorem d_MO_failsAtThis_28 : decode (mC m_MO_failsAtThis) 28 = .ok (.invokevirtual 202, 3) := by decide +kernel
theorem d_MO_failsAtThis_31 : decode (mC m_MO_failsAtThis) 31 = .ok (.ireturn, 1) := by decide +kernel
theorem d_MO_failsAtThis_32 : decode (mC m_MO_failsAtThis) 32 = .ok (.aload_n 0, 1) := by decide +kernel
theorem d_MO_failsAtThis_33 : decode (mC m_MO_failsAtThis) 33 = .ok (.getfield 25, 3) := by decide +kernel
theorem d_MO_failsAtThis_36 : decode (mC m_MO_failsAtThis) 36 = .ok (.iload_n 1, 1) := by decide +kernel
theorem d_MO_failsAtThis_37 : decode (mC m_MO_failsAtThis) 37 = .ok (.aload_n 0, 1) := by decide +kernel
theorem d_MO_failsAtThis_38 : decode (mC m_MO_failsAtThis) 38 = .ok (.getfield 171, 3) := by decide +kernel
theorem d_MO_failsAtThis_41 : decode (mC m_MO_failsAtThis) 41 = .ok (.iastore, 1) := by decide +kernel
theorem d_MO_failsAtThis_42 : decode (mC m_MO_failsAtThis) 42 = .ok (.iconst 0, 1) := by decide +kernel
theorem d_MO_failsAtThis_43 : decode (mC m_MO_failsAtThis) 43 = .ok (.ireturn, 1) := by decide +kernel
theorem d_MO_failsAtNumber_0 : decode (mC m_MO_failsAtNumber) 0 = .ok (.aload_n 0, 1) := by decide +kernel
theorem d_MO_failsAtNumber_1 : decode (mC m_MO_failsAtNumber) 1 = .ok (.invokevirtual 199, 3) := by decide +kernel
theorem d_MO_failsAtNumber_4 : decode (mC m_MO_failsAtNumber) 4 = .ok (.aload_n 0, 1) := by decide +kernel
theorem d_MO_failsAtNumber_5 : decode (mC m_MO_failsAtNumber) 5 = .ok (.iload_n 1, 1) := by decide +kernel
theorem d_MO_failsAtNumber_6 : decode (mC m_MO_failsAtNumber) 6 = .ok (.iload_n 2, 1) := by decide +kernel
theorem d_MO_failsAtNumber_7 : decode (mC m_MO_failsAtNumber) 7 = .ok (.iload_n 3, 1) := by decide +kernel
theorem d_MO_failsAtNumber_8 : decode (mC m_MO_failsAtNumber) 8 = .ok (.invokevirtual 205, 3) := by decide +kernel
theorem d_MO_failsAtNumber_11 : decode (mC m_MO_failsAtNumber) 11 = .ok (.ireturn, 1) := by decide +kernel
theorem d_MO_failsAtEnd_0 : decode (mC m_MO_failsAtEnd) 0 = .ok (.aload_n 0, 1) := by decide +kernel
theorem d_MO_failsAtEnd_1 : decode (mC m_MO_failsAtEnd) 1 = .ok (.getfield 184, 3) := by decide +kernel
theorem d_MO_failsAtEnd_4 : decode (mC m_MO_failsAtEnd) 4 = .ok (.iconst 3, 1) := by decide +kernel
theorem d_MO_failsAtEnd_5 : decode (mC m_MO_failsAtEnd) 5 = .ok (.if_icmp .eq 9, 3) := by decide +kernel
theorem d_MO_failsAtEnd_8 : decode (mC m_MO_failsAtEnd) 8 = .ok (.aload_n 0, 1) := by decide +kernel
theorem d_MO_failsAtEnd_9 : decode (mC m_MO_failsAtEnd) 9 = .ok (.iconst 1, 1) := by decide +kernel
theorem d_MO_failsAtEnd_10 : decode (mC m_MO_failsAtEnd) 10 = .ok (.invokevirtual 202, 3) := by decide +kernel
theorem d_MO_failsAtEnd_13 : decode (mC m_MO_failsAtEnd) 13 = .ok (.ireturn, 1) := by decide +kernel
theorem d_MO_failsAtEnd_14 : decode (mC m_MO_failsAtEnd) 14 = .ok (.aload_n 0, 1) := by decide +kernel
theorem d_MO_failsAtEnd_15 : decode (mC m_MO_failsAtEnd) 15 = .ok (.invokevirtual 199, 3) := by decide +kernel
theorem d_MO_failsAtEnd_18 : decode (mC m_MO_failsAtEnd) 18 = .ok (.iconst 0, 1) := by decide +kernel
theorem d_MO_failsAtEnd_19 : decode (mC m_MO_failsAtEnd) 19 = .ok (.ireturn, 1) := by decide +kernel
theorem d_MO_failsAtNext_0 : decode (mC m_MO_failsAtNext) 0 = .ok (.aload_n 0, 1) := by decide +kernel
theorem d_MO_failsAtNext_1 : decode (mC m_MO_failsAtNext) 1 = .ok (.invokevirtual 199, 3) := by decide +kernel
theorem d_MO_failsAtNext_4 : decode (mC m_MO_failsAtNext) 4 = .ok (.aload_n 0, 1) := by decide +kernel
theorem d_MO_failsAtNext_5 : decode (mC m_MO_failsAtNext) 5 = .ok (.invokevirtual 208, 3) := by decide +kernel
theorem d_MO_failsAtNext_8 : decode (mC m_MO_failsAtNext) 8 = .ok (.ireturn, 1) := by decide +kernel
set_option maxRecDepth 20000 in
theorem cm_MO_byteAt {E : En} {h : Hp} {m st mi nu co wd n : Nat} {c0 G0 T Ti N K : Nat → Int32} {R : List (Nat × (Nat → Int32))} {cm nx k at9 : Nat} {v e6 e7 : Int32} {j : Nat} (hM : MpOk h m st mi nu co wd) (nd : (m :: st :: mi :: nu :: co :: wd :: R.map Prod.fst).Nodup) (hn : n ≤ 500) (hc : c0 5 = nI n) (hT : ∀ j, j < n → Ti j = T j) (hj : j < n) : CR E m_MO_byteAt [.ref m, .int (nI j)] (wL h ((m, (rM c0 cm nx k at9 v e6 e7)) :: (st, G0) :: (mi, Ti) :: (nu, N) :: (co, K) :: (wd, wdR) :: R)) (some (.int (T j))) (wL h ((m, (rM c0 cm nx k at9 v e6 e7)) :: (st, G0) :: (mi, Ti) :: (nu, N) :: (co, K) :: (wd, wdR) :: R)) := by
  refine ct_of rfl (by decide +kernel) (Nat.le_of_ble_eq_true rfl) ?_
  show G E m_MO_byteAt 0 [(0, .ref m), (1, .int (nI j))] [] (wL h ((m, (rM c0 cm nx k at9 v e6 e7)) :: (st, G0) :: (mi, Ti) :: (nu, N) :: (co, K) :: (wd, wdR) :: R)) 0 0 _ noX
  obtain ⟨k_m, r_m_0, k_st, l_st, r_m_4, k_mi, l_mi, r_m_12, k_nu, l_nu, r_m_13, k_co, l_co, r_m_18, k_wd, l_wd⟩ := id hM
  refine g_iload_n (pc := 0) d_MO_byteAt_0 rfl 1 rfl ?_
  refine g_aload_n (pc := 1) d_MO_byteAt_1 rfl 0 rfl ?_
  refine g_lgI0 (pc := 2) (ci := 7) (f := 5) rfl d_MO_byteAt_2 fl_MO_151 (by decide) k_m nd ?_
  refine g_top (y := nI n) hc ?_
  refine g_icmp_ge (pc := 5) (tgt := 17) d_MO_byteAt_5 (by decide) (fun c_5 => ?_) (fun c_5 => ?_)
  · exact absurd ((nI_leI (by omega) (by omega)).mp c_5) (by omega)
  · skip
    refine g_aload_n (pc := 8) d_MO_byteAt_8 rfl 0 rfl ?_
    refine g_getR (pc := 9) (ci := 7) (f := 4) (b := mi) rfl r_m_4 d_MO_byteAt_9 fl_MO_17 (by decide) k_m ?_
    refine g_iload_n (pc := 12) d_MO_byteAt_12 rfl 1 rfl ?_
    refine g_lba2 (pc := 13) (j := j) d_MO_byteAt_13 k_mi l_mi (by first | assumption | omega | decide) (by decide) nd ?_
    refine g_goto (pc := 14) (tgt := 20) d_MO_byteAt_14 (by decide) ?_
    refine g_iret (pc := 20) d_MO_byteAt_20 rfl ?_
    rw [hT j hj]
    exact ⟨rfl, rfl⟩
set_option maxRecDepth 20000 in
theorem cm_MO_isLetter {E : En} {h : Hp} {m st mi nu co wd n : Nat} {c0 G0 T Ti N K : Nat → Int32} {R : List (Nat × (Nat → Int32))} {cm nx k at9 : Nat} {v e6 e7 : Int32} {j : Nat} (hM : MpOk h m st mi nu co wd) (nd : (m :: st :: mi :: nu :: co :: wd :: R.map Prod.fst).Nodup) (hn : n ≤ 500) (hc : c0 5 = nI n) (hT : ∀ j, j < n → Ti j = T j) (hj : j < n) : CR E m_MO_isLetter [.ref m, .int (nI j)] (wL h ((m, (rM c0 cm nx k at9 v e6 e7)) :: (st, G0) :: (mi, Ti) :: (nu, N) :: (co, K) :: (wd, wdR) :: R)) (some (.int (bI (X_let (T j))))) (wL h ((m, (rM c0 cm nx k at9 v e6 e7)) :: (st, G0) :: (mi, Ti) :: (nu, N) :: (co, K) :: (wd, wdR) :: R)) := by
  refine ct_of rfl (by decide +kernel) (Nat.le_of_ble_eq_true rfl) ?_
  show G E m_MO_isLetter 0 [(0, .ref m), (1, .int (nI j))] [] (wL h ((m, (rM c0 cm nx k at9 v e6 e7)) :: (st, G0) :: (mi, Ti) :: (nu, N) :: (co, K) :: (wd, wdR) :: R)) 0 0 _ noX
  obtain ⟨k_m, r_m_0, k_st, l_st, r_m_4, k_mi, l_mi, r_m_12, k_nu, l_nu, r_m_13, k_co, l_co, r_m_18, k_wd, l_wd⟩ := id hM
  refine g_aload_n (pc := 0) d_MO_isLetter_0 rfl 0 rfl ?_
  refine g_iload_n (pc := 1) d_MO_isLetter_1 rfl 1 rfl ?_
  refine g_cV1 (pc := 2) (ci := 7) (As := [.int _]) d_MO_isLetter_2 rfl mv_MO_byteAt st_MO_isLetter_168 rfl rfl (by decide) rfl rfl (Nat.le_of_ble_eq_true rfl) k_m (cm_MO_byteAt hM nd hn hc hT hj) ?_
  refine g_bipush (pc := 5) (v := 97) d_MO_isLetter_5 (by decide) ?_
  refine g_bipush (pc := 7) (v := 122) d_MO_isLetter_7 (by decide) ?_
  refine g_cS1 (pc := 9) (As := [.int _, .int _, .int _]) d_MO_isLetter_9 rfl ms_MO_in st_MO_isLetter_161 rfl rfl (Nat.le_of_ble_eq_true rfl) (cm_MO_inB ) ?_
  refine g_zret (pc := 12) d_MO_isLetter_12 rfl (by first | rfl | exact nar_bI _) ?_
  exact ⟨rfl, rfl⟩
set_option maxRecDepth 20000 in
theorem cm_MO_isDigit {E : En} {h : Hp} {m st mi nu co wd n : Nat} {c0 G0 T Ti N K : Nat → Int32} {R : List (Nat × (Nat → Int32))} {cm nx k at9 : Nat} {v e6 e7 : Int32} {j : Nat} (hM : MpOk h m st mi nu co wd) (nd : (m :: st :: mi :: nu :: co :: wd :: R.map Prod.fst).Nodup) (hn : n ≤ 500) (hc : c0 5 = nI n) (hT : ∀ j, j < n → Ti j = T j) (hj : j < n) : CR E m_MO_isDigit [.ref m, .int (nI j)] (wL h ((m, (rM c0 cm nx k at9 v e6 e7)) :: (st, G0) :: (mi, Ti) :: (nu, N) :: (co, K) :: (wd, wdR) :: R)) (some (.int (bI (X_dig (T j))))) (wL h ((m, (rM c0 cm nx k at9 v e6 e7)) :: (st, G0) :: (mi, Ti) :: (nu, N) :: (co, K) :: (wd, wdR) :: R)) := by
  refine ct_of rfl (by decide +kernel) (Nat.le_of_ble_eq_true rfl) ?_
  show G E m_MO_isDigit 0 [(0, .ref m), (1, .int (nI j))] [] (wL h ((m, (rM c0 cm nx k at9 v e6 e7)) :: (st, G0) :: (mi, Ti) :: (nu, N) :: (co, K) :: (wd, wdR) :: R)) 0 0 _ noX
  obtain ⟨k_m, r_m_0, k_st, l_st, r_m_4, k_mi, l_mi, r_m_12, k_nu, l_nu, r_m_13, k_co, l_co, r_m_18, k_wd, l_wd⟩ := id hM
  refine g_aload_n (pc := 0) d_MO_isDigit_0 rfl 0 rfl ?_
  refine g_iload_n (pc := 1) d_MO_isDigit_1 rfl 1 rfl ?_
  refine g_cV1 (pc := 2) (ci := 7) (As := [.int _]) d_MO_isDigit_2 rfl mv_MO_byteAt st_MO_isDigit_168 rfl rfl (by decide) rfl rfl (Nat.le_of_ble_eq_true rfl) k_m (cm_MO_byteAt hM nd hn hc hT hj) ?_
  refine g_bipush (pc := 5) (v := 48) d_MO_isDigit_5 (by decide) ?_
  refine g_bipush (pc := 7) (v := 57) d_MO_isDigit_7 (by decide) ?_
  refine g_cS1 (pc := 9) (As := [.int _, .int _, .int _]) d_MO_isDigit_9 rfl ms_MO_in st_MO_isDigit_161 rfl rfl (Nat.le_of_ble_eq_true rfl) (cm_MO_inB ) ?_
  refine g_zret (pc := 12) d_MO_isDigit_12 rfl (by first | rfl | exact nar_bI _) ?_
  exact ⟨rfl, rfl⟩
set_option maxRecDepth 20000 in
theorem cm_MO_byteAtN {E : En} {h : Hp} {m st mi nu co wd n : Nat} {c0 G0 T Ti N K : Nat → Int32} {R : List (Nat × (Nat → Int32))} {cm nx k at9 : Nat} {v e6 e7 : Int32} {j : Nat} (hM : MpOk h m st mi nu co wd) (nd : (m :: st :: mi :: nu :: co :: wd :: R.map Prod.fst).Nodup) (hn : n ≤ 500) (hc : c0 5 = nI n) (hT : ∀ j, j < n → Ti j = T j) (hj : n ≤ j) (hj9 : j ≤ 500) : CR E m_MO_byteAt [.ref m, .int (nI j)] (wL h ((m, (rM c0 cm nx k at9 v e6 e7)) :: (st, G0) :: (mi, Ti) :: (nu, N) :: (co, K) :: (wd, wdR) :: R)) (some (.int (-1000))) (wL h ((m, (rM c0 cm nx k at9 v e6 e7)) :: (st, G0) :: (mi, Ti) :: (nu, N) :: (co, K) :: (wd, wdR) :: R)) := by
  refine ct_of rfl (by decide +kernel) (Nat.le_of_ble_eq_true rfl) ?_
  show G E m_MO_byteAt 0 [(0, .ref m), (1, .int (nI j))] [] (wL h ((m, (rM c0 cm nx k at9 v e6 e7)) :: (st, G0) :: (mi, Ti) :: (nu, N) :: (co, K) :: (wd, wdR) :: R)) 0 0 _ noX
  obtain ⟨k_m, r_m_0, k_st, l_st, r_m_4, k_mi, l_mi, r_m_12, k_nu, l_nu, r_m_13, k_co, l_co, r_m_18, k_wd, l_wd⟩ := id hM
  refine g_iload_n (pc := 0) d_MO_byteAt_0 rfl 1 rfl ?_
  refine g_aload_n (pc := 1) d_MO_byteAt_1 rfl 0 rfl ?_
  refine g_lgI0 (pc := 2) (ci := 7) (f := 5) rfl d_MO_byteAt_2 fl_MO_151 (by decide) k_m nd ?_
  refine g_top (y := nI n) hc ?_
  refine g_icmp_ge (pc := 5) (tgt := 17) d_MO_byteAt_5 (by decide) (fun c_5 => ?_) (fun c_5 => ?_)
  · skip
    refine g_sipush (pc := 17) (v := (-1000)) d_MO_byteAt_17 (by decide) ?_
    refine g_iret (pc := 20) d_MO_byteAt_20 rfl ?_
    exact ⟨rfl, rfl⟩
  · exact absurd ((nI_leI (by omega) (by omega)).mpr hj) c_5
set_option maxRecDepth 20000 in
theorem cm_MO_isLetterN {E : En} {h : Hp} {m st mi nu co wd n : Nat} {c0 G0 T Ti N K : Nat → Int32} {R : List (Nat × (Nat → Int32))} {cm nx k at9 : Nat} {v e6 e7 : Int32} {j : Nat} (hM : MpOk h m st mi nu co wd) (nd : (m :: st :: mi :: nu :: co :: wd :: R.map Prod.fst).Nodup) (hn : n ≤ 500) (hc : c0 5 = nI n) (hT : ∀ j, j < n → Ti j = T j) (hj : n ≤ j) (hj9 : j ≤ 500) : CR E m_MO_isLetter [.ref m, .int (nI j)] (wL h ((m, (rM c0 cm nx k at9 v e6 e7)) :: (st, G0) :: (mi, Ti) :: (nu, N) :: (co, K) :: (wd, wdR) :: R)) (some (.int (bI (false)))) (wL h ((m, (rM c0 cm nx k at9 v e6 e7)) :: (st, G0) :: (mi, Ti) :: (nu, N) :: (co, K) :: (wd, wdR) :: R)) := by
  refine ct_of rfl (by decide +kernel) (Nat.le_of_ble_eq_true rfl) ?_
  show G E m_MO_isLetter 0 [(0, .ref m), (1, .int (nI j))] [] (wL h ((m, (rM c0 cm nx k at9 v e6 e7)) :: (st, G0) :: (mi, Ti) :: (nu, N) :: (co, K) :: (wd, wdR) :: R)) 0 0 _ noX
  obtain ⟨k_m, r_m_0, k_st, l_st, r_m_4, k_mi, l_mi, r_m_12, k_nu, l_nu, r_m_13, k_co, l_co, r_m_18, k_wd, l_wd⟩ := id hM
  refine g_aload_n (pc := 0) d_MO_isLetter_0 rfl 0 rfl ?_
  refine g_iload_n (pc := 1) d_MO_isLetter_1 rfl 1 rfl ?_
  refine g_cV1 (pc := 2) (ci := 7) (As := [.int _]) d_MO_isLetter_2 rfl mv_MO_byteAt st_MO_isLetter_168 rfl rfl (by decide) rfl rfl (Nat.le_of_ble_eq_true rfl) k_m (cm_MO_byteAtN hM nd hn hc hT hj hj9) ?_
  refine g_bipush (pc := 5) (v := 97) d_MO_isLetter_5 (by decide) ?_
  refine g_bipush (pc := 7) (v := 122) d_MO_isLetter_7 (by decide) ?_
  refine g_cS1 (pc := 9) (As := [.int _, .int _, .int _]) d_MO_isLetter_9 rfl ms_MO_in st_MO_isLetter_161 rfl rfl (Nat.le_of_ble_eq_true rfl) (cm_MO_inB ) ?_
  refine g_zret (pc := 12) d_MO_isLetter_12 rfl (by first | rfl | exact nar_bI _) ?_
  exact ⟨rfl, rfl⟩
set_option maxRecDepth 20000 in
theorem cm_MO_isDigitN {E : En} {h : Hp} {m st mi nu co wd n : Nat} {c0 G0 T Ti N K : Nat → Int32} {R : List (Nat × (Nat → Int32))} {cm nx k at9 : Nat} {v e6 e7 : Int32} {j : Nat} (hM : MpOk h m st mi nu co wd) (nd : (m :: st :: mi :: nu :: co :: wd :: R.map Prod.fst).Nodup) (hn : n ≤ 500) (hc : c0 5 = nI n) (hT : ∀ j, j < n → Ti j = T j) (hj : n ≤ j) (hj9 : j ≤ 500) : CR E m_MO_isDigit [.ref m, .int (nI j)] (wL h ((m, (rM c0 cm nx k at9 v e6 e7)) :: (st, G0) :: (mi, Ti) :: (nu, N) :: (co, K) :: (wd, wdR) :: R)) (some (.int (bI (false)))) (wL h ((m, (rM c0 cm nx k at9 v e6 e7)) :: (st, G0) :: (mi, Ti) :: (nu, N) :: (co, K) :: (wd, wdR) :: R)) := by
  refine ct_of rfl (by decide +kernel) (Nat.le_of_ble_eq_true rfl) ?_
  show G E m_MO_isDigit 0 [(0, .ref m), (1, .int (nI j))] [] (wL h ((m, (rM c0 cm nx k at9 v e6 e7)) :: (st, G0) :: (mi, Ti) :: (nu, N) :: (co, K) :: (wd, wdR) :: R)) 0 0 _ noX
  obtain ⟨k_m, r_m_0, k_st, l_st, r_m_4, k_mi, l_mi, r_m_12, k_nu, l_nu, r_m_13, k_co, l_co, r_m_18, k_wd, l_wd⟩ := id hM
  refine g_aload_n (pc := 0) d_MO_isDigit_0 rfl 0 rfl ?_
  refine g_iload_n (pc := 1) d_MO_isDigit_1 rfl 1 rfl ?_
  refine g_cV1 (pc := 2) (ci := 7) (As := [.int _]) d_MO_isDigit_2 rfl mv_MO_byteAt st_MO_isDigit_168 rfl rfl (by decide) rfl rfl (Nat.le_of_ble_eq_true rfl) k_m (cm_MO_byteAtN hM nd hn hc hT hj hj9) ?_
  refine g_bipush (pc := 5) (v := 48) d_MO_isDigit_5 (by decide) ?_
  refine g_bipush (pc := 7) (v := 57) d_MO_isDigit_7 (by decide) ?_
  refine g_cS1 (pc := 9) (As := [.int _, .int _, .int _]) d_MO_isDigit_9 rfl ms_MO_in st_MO_isDigit_161 rfl rfl (Nat.le_of_ble_eq_true rfl) (cm_MO_inB ) ?_
  refine g_zret (pc := 12) d_MO_isDigit_12 rfl (by first | rfl | exact nar_bI _) ?_
  exact ⟨rfl, rfl⟩
theorem lp_MO_readNumber {E : En} {h : Hp} {m st mi nu co wd n : Nat} {c0 G0 T Ti N K : Nat → Int32} {R : List (Nat × (Nat → Int32))} {cm k at9 : Nat} {e6 e7 : Int32} (hM : MpOk h m st mi nu co wd) (nd : (m :: st :: mi :: nu :: co :: wd :: R.map Prod.fst).Nodup) (hn : n ≤ 500) (hc : c0 5 = nI n) (hT : ∀ j, j < n → Ti j = T j) : ∀ (d nx : Nat) (v : Int32), nx ≤ n → n - nx < d → G E m_MO_readNumber 5 [(0, .ref m)] [] (wL h ((m, (rM c0 cm nx k at9 v e6 e7)) :: (st, G0) :: (mi, Ti) :: (nu, N) :: (co, K) :: (wd, wdR) :: R)) 0 0 (fun v1 h1 => v1 = none ∧ h1 = wL h ((m, (rM c0 cm (X_wh X_dig T (n - nx) nx) k at9 (Z_num T (n - nx) nx v) e6 e7)) :: (st, G0) :: (mi, Ti) :: (nu, N) :: (co, K) :: (wd, wdR) :: R)) noX := by
  obtain ⟨k_m, r_m_0, k_st, l_st, r_m_4, k_mi, l_mi, r_m_12, k_nu, l_nu, r_m_13, k_co, l_co, r_m_18, k_wd, l_wd⟩ := id hM
  intro d
  induction d with
  | zero => intros; omega
  | succ d ih =>
    intro nx v hx hd
    by_cases hj : nx < n
    · skip
      refine g_aload_n (pc := 5) d_MO_readNumber_5 rfl 0 rfl ?_
      refine g_aload_n (pc := 6) d_MO_readNumber_6 rfl 0 rfl ?_
      refine g_lgI0 (pc := 7) (ci := 7) (f := 8) rfl d_MO_readNumber_7 fl_MO_174 (by decide) k_m nd ?_
      refine g_top (y := nI nx) rfl ?_
      refine g_cV1 (pc := 10) (ci := 7) (As := [.int _]) d_MO_readNumber_10 rfl mv_MO_isDigit st_MO_readNumber_177 rfl rfl (by decide) rfl rfl (Nat.le_of_ble_eq_true rfl) k_m (cm_MO_isDigit hM nd hn hc hT hj) ?_
      refine g_if_eq (pc := 13) (tgt := 68) d_MO_readNumber_13 (by decide) (fun c_13 => ?_) (fun c_13 => ?_)
      · skip
        have z := bI_0.mp c_13
        refine g_vret (pc := 68) d_MO_readNumber_68 rfl ?_
        rw [X_wh_f (fun _ => by rw [z]; decide), Z_num_f (fun _ => by rw [z]; decide)]
        exact ⟨rfl, rfl⟩
      · skip
        have z := bI_n0 c_13
        refine g_aload_n (pc := 16) d_MO_readNumber_16 rfl 0 rfl ?_
        refine g_aload_n (pc := 17) d_MO_readNumber_17 rfl 0 rfl ?_
        refine g_lgI0 (pc := 18) (ci := 7) (f := 11) rfl d_MO_readNumber_18 fl_MO_171 (by decide) k_m nd ?_
        refine g_top (y := v) rfl ?_
        refine g_bipush (pc := 21) (v := 10) d_MO_readNumber_21 (by decide) ?_
        refine g_imul (pc := 23) d_MO_readNumber_23 ?_
        refine g_aload_n (pc := 24) d_MO_readNumber_24 rfl 0 rfl ?_
        refine g_getR (pc := 25) (ci := 7) (f := 4) (b := mi) rfl r_m_4 d_MO_readNumber_25 fl_MO_17 (by decide) k_m ?_
        refine g_aload_n (pc := 28) d_MO_readNumber_28 rfl 0 rfl ?_
        refine g_lgI0 (pc := 29) (ci := 7) (f := 8) rfl d_MO_readNumber_29 fl_MO_174 (by decide) k_m nd ?_
        refine g_top (y := nI nx) rfl ?_
        refine g_lba2 (pc := 32) (j := nx) d_MO_readNumber_32 k_mi l_mi (by first | assumption | omega | decide) (by decide) nd ?_
        rw [hT nx hj]
        refine g_iadd (pc := 33) d_MO_readNumber_33 ?_
        refine g_bipush (pc := 34) (v := 48) d_MO_readNumber_34 (by decide) ?_
        refine g_isub (pc := 36) d_MO_readNumber_36 ?_
        refine g_lpE0 (pc := 37) (ci := 7) (f := 11) (hg := rM_p11 (x := (v * 10 + T nx - 48))) rfl d_MO_readNumber_37 fl_MO_171 (fun q hq => by cases hq; exact rfl) rfl rfl (by decide) k_m nd ?_
        refine g_aload_n (pc := 40) d_MO_readNumber_40 rfl 0 rfl ?_
        refine g_lgI0 (pc := 41) (ci := 7) (f := 11) rfl d_MO_readNumber_41 fl_MO_171 (by decide) k_m nd ?_
        refine g_top (y := (v * 10 + T nx - 48)) rfl ?_
        refine g_ldci (pc := 44) d_MO_readNumber_44 co_MO_180 ?_
        refine g_icmp_le (pc := 46) (tgt := 55) d_MO_readNumber_46 (by decide) (fun c_46 => ?_) (fun c_46 => ?_)
        · skip
          refine g_aload_n (pc := 55) d_MO_readNumber_55 rfl 0 rfl ?_
          refine g_dup (pc := 56) d_MO_readNumber_56 rfl ?_
          refine g_lgI0 (pc := 57) (ci := 7) (f := 8) rfl d_MO_readNumber_57 fl_MO_174 (by decide) k_m nd ?_
          refine g_top (y := nI nx) rfl ?_
          refine g_iconst (pc := 60) (v := 1) d_MO_readNumber_60 (by decide) ?_
          refine g_iadd (pc := 61) d_MO_readNumber_61 ?_
          refine g_top (nI_1 nx) ?_
          refine g_lpE0 (pc := 62) (ci := 7) (f := 8) (hg := rM_p8 (x := (nx + 1))) rfl d_MO_readNumber_62 fl_MO_174 (fun q hq => by cases hq; exact rfl) rfl rfl (by decide) k_m nd ?_
          refine g_goto (pc := 65) (tgt := 5) d_MO_readNumber_65 (by decide) ?_
          have ih9 := ih (nx + 1) (Z_v1 v (T nx)) (by omega) (by omega)
          rw [X_wh_t hj z, Z_num_t hj z]
          unfold Z_v1 at ih9 ⊢
          first | (rw [if_pos c_46] at ih9 ⊢; exact ih9) | (rw [if_neg c_46] at ih9 ⊢; exact ih9)
        · skip
          refine g_aload_n (pc := 49) d_MO_readNumber_49 rfl 0 rfl ?_
          refine g_ldci (pc := 50) d_MO_readNumber_50 co_MO_180 ?_
          refine g_lpE0 (pc := 52) (ci := 7) (f := 11) (hg := rM_p11 (x := 10000000)) rfl d_MO_readNumber_52 fl_MO_171 (fun q hq => by cases hq; exact rfl) rfl rfl (by decide) k_m nd ?_
          refine g_aload_n (pc := 55) d_MO_readNumber_55 rfl 0 rfl ?_
          refine g_dup (pc := 56) d_MO_readNumber_56 rfl ?_
          refine g_lgI0 (pc := 57) (ci := 7) (f := 8) rfl d_MO_readNumber_57 fl_MO_174 (by decide) k_m nd ?_
          refine g_top (y := nI nx) rfl ?_
          refine g_iconst (pc := 60) (v := 1) d_MO_readNumber_60 (by decide) ?_
          refine g_iadd (pc := 61) d_MO_readNumber_61 ?_
          refine g_top (nI_1 nx) ?_
          refine g_lpE0 (pc := 62) (ci := 7) (f := 8) (hg := rM_p8 (x := (nx + 1))) rfl d_MO_readNumber_62 fl_MO_174 (fun q hq => by cases hq; exact rfl) rfl rfl (by decide) k_m nd ?_
          refine g_goto (pc := 65) (tgt := 5) d_MO_readNumber_65 (by decide) ?_
          have ih9 := ih (nx + 1) (Z_v1 v (T nx)) (by omega) (by omega)
          rw [X_wh_t hj z, Z_num_t hj z]
          unfold Z_v1 at ih9 ⊢
          first | (rw [if_pos c_46] at ih9 ⊢; exact ih9) | (rw [if_neg c_46] at ih9 ⊢; exact ih9)
    · skip
      refine g_aload_n (pc := 5) d_MO_readNumber_5 rfl 0 rfl ?_
      refine g_aload_n (pc := 6) d_MO_readNumber_6 rfl 0 rfl ?_
      refine g_lgI0 (pc := 7) (ci := 7) (f := 8) rfl d_MO_readNumber_7 fl_MO_174 (by decide) k_m nd ?_
      refine g_top (y := nI nx) rfl ?_
      refine g_cV1 (pc := 10) (ci := 7) (As := [.int _]) d_MO_readNumber_10 rfl mv_MO_isDigit st_MO_readNumber_177 rfl rfl (by decide) rfl rfl (Nat.le_of_ble_eq_true rfl) k_m (cm_MO_isDigitN hM nd hn hc hT (by omega) (by omega)) ?_
      refine g_if_eq (pc := 13) (tgt := 68) d_MO_readNumber_13 (by decide) (fun c_13 => ?_) (fun c_13 => ?_)
      · skip
        refine g_vret (pc := 68) d_MO_readNumber_68 rfl ?_
        rw [X_wh_f (fun z => absurd z hj), Z_num_f (fun z => absurd z hj)]
        exact ⟨rfl, rfl⟩
      · exact absurd rfl c_13
set_option maxRecDepth 20000 in
theorem cm_MO_readNumber {E : En} {h : Hp} {m st mi nu co wd n : Nat} {c0 G0 T Ti N K : Nat → Int32} {R : List (Nat × (Nat → Int32))} {cm nx k at9 : Nat} {v e6 e7 : Int32} (hM : MpOk h m st mi nu co wd) (nd : (m :: st :: mi :: nu :: co :: wd :: R.map Prod.fst).Nodup) (hn : n ≤ 500) (hc : c0 5 = nI n) (hT : ∀ j, j < n → Ti j = T j) (hx : nx ≤ n) : CR E m_MO_readNumber [.ref m] (wL h ((m, (rM c0 cm nx k at9 v e6 e7)) :: (st, G0) :: (mi, Ti) :: (nu, N) :: (co, K) :: (wd, wdR) :: R)) (none) (wL h ((m, (rM c0 cm (X_wh X_dig T (n - nx) nx) k at9 (Z_num T (n - nx) nx 0) e6 e7)) :: (st, G0) :: (mi, Ti) :: (nu, N) :: (co, K) :: (wd, wdR) :: R)) := by
  refine ct_of rfl (by decide +kernel) (Nat.le_of_ble_eq_true rfl) ?_
  show G E m_MO_readNumber 0 [(0, .ref m)] [] (wL h ((m, (rM c0 cm nx k at9 v e6 e7)) :: (st, G0) :: (mi, Ti) :: (nu, N) :: (co, K) :: (wd, wdR) :: R)) 0 0 _ noX
  obtain ⟨k_m, r_m_0, k_st, l_st, r_m_4, k_mi, l_mi, r_m_12, k_nu, l_nu, r_m_13, k_co, l_co, r_m_18, k_wd, l_wd⟩ := id hM
  refine g_aload_n (pc := 0) d_MO_readNumber_0 rfl 0 rfl ?_
  refine g_iconst (pc := 1) (v := 0) d_MO_readNumber_1 (by decide) ?_
  refine g_lpE0 (pc := 2) (ci := 7) (f := 11) (hg := rM_p11 (x := (0))) rfl d_MO_readNumber_2 fl_MO_171 (fun q hq => by cases hq; exact rfl) rfl rfl (by decide) k_m nd ?_
  exact lp_MO_readNumber hM nd hn hc hT (n + 1) nx 0 hx (by omega)
theorem lp_MO_letters {E : En} {h : Hp} {m st mi nu co wd n : Nat} {c0 G0 T Ti N K : Nat → Int32} {R : List (Nat × (Nat → Int32))} {cm k at9 : Nat} {v e6 e7 : Int32} (hM : MpOk h m st mi nu co wd) (nd : (m :: st :: mi :: nu :: co :: wd :: R.map Prod.fst).Nodup) (hn : n ≤ 500) (hc : c0 5 = nI n) (hT : ∀ j, j < n → Ti j = T j) : ∀ (d nx : Nat), nx ≤ n → n - nx < d → G E m_MO_readToken 69 [(0, .ref m)] [] (wL h ((m, (rM c0 cm nx k at9 v e6 e7)) :: (st, G0) :: (mi, Ti) :: (nu, N) :: (co, K) :: (wd, wdR) :: R)) 0 0 (fun v1 h1 => v1 = none ∧ h1 = wL h ((m, (rM c0 cm (X_wh X_let T (n - nx) nx) k at9 v e6 e7)) :: (st, G0) :: (mi, Ti) :: (nu, N) :: (co, K) :: (wd, wdR) :: R)) noX := by
  obtain ⟨k_m, r_m_0, k_st, l_st, r_m_4, k_mi, l_mi, r_m_12, k_nu, l_nu, r_m_13, k_co, l_co, r_m_18, k_wd, l_wd⟩ := id hM
  intro d
  induction d with
  | zero => intros; omega
  | succ d ih =>
    intro nx hx hd
    by_cases hj : nx < n
    · skip
      refine g_aload_n (pc := 69) d_MO_readToken_69 rfl 0 rfl ?_
      refine g_aload_n (pc := 70) d_MO_readToken_70 rfl 0 rfl ?_
      refine g_lgI0 (pc := 71) (ci := 7) (f := 8) rfl d_MO_readToken_71 fl_MO_174 (by decide) k_m nd ?_
      refine g_top (y := nI nx) rfl ?_
      refine g_cV1 (pc := 74) (ci := 7) (As := [.int _]) d_MO_readToken_74 rfl mv_MO_isLetter st_MO_readToken_187 rfl rfl (by decide) rfl rfl (Nat.le_of_ble_eq_true rfl) k_m (cm_MO_isLetter hM nd hn hc hT hj) ?_
      refine g_if_eq (pc := 77) (tgt := 148) d_MO_readToken_77 (by decide) (fun c_77 => ?_) (fun c_77 => ?_)
      · skip
        have z := bI_0.mp c_77
        refine g_vret (pc := 148) d_MO_readToken_148 rfl ?_
        rw [X_wh_f (fun _ => by rw [z]; decide)]
        exact ⟨rfl, rfl⟩
      · skip
        have z := bI_n0 c_77
        refine g_aload_n (pc := 80) d_MO_readToken_80 rfl 0 rfl ?_
        refine g_dup (pc := 81) d_MO_readToken_81 rfl ?_
        refine g_lgI0 (pc := 82) (ci := 7) (f := 8) rfl d_MO_readToken_82 fl_MO_174 (by decide) k_m nd ?_
        refine g_top (y := nI nx) rfl ?_
        refine g_iconst (pc := 85) (v := 1) d_MO_readToken_85 (by decide) ?_
        refine g_iadd (pc := 86) d_MO_readToken_86 ?_
        refine g_top (nI_1 nx) ?_
        refine g_lpE0 (pc := 87) (ci := 7) (f := 8) (hg := rM_p8 (x := (nx + 1))) rfl d_MO_readToken_87 fl_MO_174 (fun q hq => by cases hq; exact rfl) rfl rfl (by decide) k_m nd ?_
        refine g_goto (pc := 90) (tgt := 69) d_MO_readToken_90 (by decide) ?_
        rw [X_wh_t hj z]
        exact ih (nx + 1) (by omega) (by omega)
    · skip
      refine g_aload_n (pc := 69) d_MO_readToken_69 rfl 0 rfl ?_
      refine g_aload_n (pc := 70) d_MO_readToken_70 rfl 0 rfl ?_
      refine g_lgI0 (pc := 71) (ci := 7) (f := 8) rfl d_MO_readToken_71 fl_MO_174 (by decide) k_m nd ?_
      refine g_top (y := nI nx) rfl ?_
      refine g_cV1 (pc := 74) (ci := 7) (As := [.int _]) d_MO_readToken_74 rfl mv_MO_isLetter st_MO_readToken_187 rfl rfl (by decide) rfl rfl (Nat.le_of_ble_eq_true rfl) k_m (cm_MO_isLetterN hM nd hn hc hT (by omega) (by omega)) ?_
      refine g_if_eq (pc := 77) (tgt := 148) d_MO_readToken_77 (by decide) (fun c_77 => ?_) (fun c_77 => ?_)
      · skip
        refine g_vret (pc := 148) d_MO_readToken_148 rfl ?_
        rw [X_wh_f (fun z => absurd z hj)]
        exact ⟨rfl, rfl⟩
      · exact absurd rfl c_77
theorem lp_MO_token {E : En} {h : Hp} {m st mi nu co wd n : Nat} {c0 G0 T Ti N K : Nat → Int32} {R : List (Nat × (Nat → Int32))} {cm nx k at9 : Nat} {v e6 e7 : Int32} {e : Nat} (hM : MpOk h m st mi nu co wd) (nd : (m :: st :: mi :: nu :: co :: wd :: R.map Prod.fst).Nodup) (hn : n ≤ 500) (hc : c0 5 = nI n) (hT : ∀ j, j < n → Ti j = T j) (hx : nx ≤ n) (hs : X_wh X_sp T (n - e) e = nx) (hsp : nx < n → ¬ X_sp (T nx) = true) : G E m_MO_readToken 26 [(0, .ref m)] [] (wL h ((m, (rM c0 cm nx k at9 v e6 e7)) :: (st, G0) :: (mi, Ti) :: (nu, N) :: (co, K) :: (wd, wdR) :: R)) 0 0 (fun v1 h1 => v1 = none ∧ h1 = wL h ((m, (rM c0 cm (X_tok T n e).2.2 (X_tok T n e).1 (X_tok T n e).2.1 (Z_val T n e v) e6 e7)) :: (st, G0) :: (mi, Ti) :: (nu, N) :: (co, K) :: (wd, wdR) :: R)) noX := by
  obtain ⟨k_m, r_m_0, k_st, l_st, r_m_4, k_mi, l_mi, r_m_12, k_nu, l_nu, r_m_13, k_co, l_co, r_m_18, k_wd, l_wd⟩ := id hM
  by_cases hj : nx < n
  · skip
    refine g_aload_n (pc := 26) d_MO_readToken_26 rfl 0 rfl ?_
    refine g_aload_n (pc := 27) d_MO_readToken_27 rfl 0 rfl ?_
    refine g_lgI0 (pc := 28) (ci := 7) (f := 8) rfl d_MO_readToken_28 fl_MO_174 (by decide) k_m nd ?_
    refine g_top (y := nI nx) rfl ?_
    refine g_lpE0 (pc := 31) (ci := 7) (f := 10) (hg := rM_p10 (x := nx)) rfl d_MO_readToken_31 fl_MO_181 (fun q hq => by cases hq; exact rfl) rfl rfl (by decide) k_m nd ?_
    refine g_aload_n (pc := 34) d_MO_readToken_34 rfl 0 rfl ?_
    refine g_lgI0 (pc := 35) (ci := 7) (f := 8) rfl d_MO_readToken_35 fl_MO_174 (by decide) k_m nd ?_
    refine g_top (y := nI nx) rfl ?_
    refine g_aload_n (pc := 38) d_MO_readToken_38 rfl 0 rfl ?_
    refine g_lgI0 (pc := 39) (ci := 7) (f := 5) rfl d_MO_readToken_39 fl_MO_151 (by decide) k_m nd ?_
    refine g_top (y := nI n) hc ?_
    refine g_icmp_ne (pc := 42) (tgt := 53) d_MO_readToken_42 (by decide) (fun c_42 => ?_) (fun c_42 => ?_)
    · skip
      refine g_aload_n (pc := 53) d_MO_readToken_53 rfl 0 rfl ?_
      refine g_aload_n (pc := 54) d_MO_readToken_54 rfl 0 rfl ?_
      refine g_lgI0 (pc := 55) (ci := 7) (f := 8) rfl d_MO_readToken_55 fl_MO_174 (by decide) k_m nd ?_
      refine g_top (y := nI nx) rfl ?_
      refine g_cV1 (pc := 58) (ci := 7) (As := [.int _]) d_MO_readToken_58 rfl mv_MO_isLetter st_MO_readToken_187 rfl rfl (by decide) rfl rfl (Nat.le_of_ble_eq_true rfl) k_m (cm_MO_isLetter hM nd hn hc hT hj) ?_
      refine g_if_eq (pc := 61) (tgt := 93) d_MO_readToken_61 (by decide) (fun c_61 => ?_) (fun c_61 => ?_)
      · skip
        have z1 : X_let (T nx) = false := bI_0.mp c_61
        refine g_aload_n (pc := 93) d_MO_readToken_93 rfl 0 rfl ?_
        refine g_aload_n (pc := 94) d_MO_readToken_94 rfl 0 rfl ?_
        refine g_lgI0 (pc := 95) (ci := 7) (f := 8) rfl d_MO_readToken_95 fl_MO_174 (by decide) k_m nd ?_
        refine g_top (y := nI nx) rfl ?_
        refine g_cV1 (pc := 98) (ci := 7) (As := [.int _]) d_MO_readToken_98 rfl mv_MO_isDigit st_MO_readToken_177 rfl rfl (by decide) rfl rfl (Nat.le_of_ble_eq_true rfl) k_m (cm_MO_isDigit hM nd hn hc hT hj) ?_
        refine g_if_eq (pc := 101) (tgt := 116) d_MO_readToken_101 (by decide) (fun c_101 => ?_) (fun c_101 => ?_)
        · skip
          have z2 : X_dig (T nx) = false := bI_0.mp c_101
          refine g_aload_n (pc := 116) d_MO_readToken_116 rfl 0 rfl ?_
          refine g_aload_n (pc := 117) d_MO_readToken_117 rfl 0 rfl ?_
          refine g_aload_n (pc := 118) d_MO_readToken_118 rfl 0 rfl ?_
          refine g_lgI0 (pc := 119) (ci := 7) (f := 8) rfl d_MO_readToken_119 fl_MO_174 (by decide) k_m nd ?_
          refine g_top (y := nI nx) rfl ?_
          refine g_cV1 (pc := 122) (ci := 7) (As := [.int _]) d_MO_readToken_122 rfl mv_MO_byteAt st_MO_readToken_168 rfl rfl (by decide) rfl rfl (Nat.le_of_ble_eq_true rfl) k_m (cm_MO_byteAt hM nd hn hc hT hj) ?_
          refine g_bipush (pc := 125) (v := 59) d_MO_readToken_125 (by decide) ?_
          refine g_icmp_ne (pc := 127) (tgt := 134) d_MO_readToken_127 (by decide) (fun c_127 => ?_) (fun c_127 => ?_)
          · skip
            refine g_iconst (pc := 134) (v := 4) d_MO_readToken_134 (by decide) ?_
            refine g_lpE0 (pc := 135) (ci := 7) (f := 9) (hg := rM_p9 (x := (4))) rfl d_MO_readToken_135 fl_MO_184 (fun q hq => by cases hq; exact rfl) rfl rfl (by decide) k_m nd ?_
            refine g_aload_n (pc := 138) d_MO_readToken_138 rfl 0 rfl ?_
            refine g_dup (pc := 139) d_MO_readToken_139 rfl ?_
            refine g_lgI0 (pc := 140) (ci := 7) (f := 8) rfl d_MO_readToken_140 fl_MO_174 (by decide) k_m nd ?_
            refine g_top (y := nI nx) rfl ?_
            refine g_iconst (pc := 143) (v := 1) d_MO_readToken_143 (by decide) ?_
            refine g_iadd (pc := 144) d_MO_readToken_144 ?_
            refine g_top (nI_1 nx) ?_
            refine g_lpE0 (pc := 145) (ci := 7) (f := 8) (hg := rM_p8 (x := (nx + 1))) rfl d_MO_readToken_145 fl_MO_174 (fun q hq => by cases hq; exact rfl) rfl rfl (by decide) k_m nd ?_
            refine g_vret (pc := 148) d_MO_readToken_148 rfl ?_
            first
            | (have hk : (if nx < n then X_kind (T nx) else 0) = 2 := (by rw [if_pos hj]; unfold X_kind; rw [if_neg (by rw [z1]; decide), if_pos z2]); rw [X_tok_at hs hk, Z_val_at hs hk]; exact ⟨rfl, rfl⟩)
            | (have hk : (if nx < n then X_kind (T nx) else 0) = 3 := (by rw [if_pos hj]; unfold X_kind; rw [if_neg (by rw [z1]; decide), if_neg (by rw [z2]; decide), if_pos c_127]); rw [X_tok_at hs hk, Z_val_at hs hk]; exact ⟨rfl, rfl⟩)
            | (have hk : (if nx < n then X_kind (T nx) else 0) = 4 := (by rw [if_pos hj]; unfold X_kind; rw [if_neg (by rw [z1]; decide), if_neg (by rw [z2]; decide), if_neg c_127]); rw [X_tok_at hs hk, Z_val_at hs hk]; exact ⟨rfl, rfl⟩)
          · skip
            refine g_iconst (pc := 130) (v := 3) d_MO_readToken_130 (by decide) ?_
            refine g_goto (pc := 131) (tgt := 135) d_MO_readToken_131 (by decide) ?_
            refine g_lpE0 (pc := 135) (ci := 7) (f := 9) (hg := rM_p9 (x := (3))) rfl d_MO_readToken_135 fl_MO_184 (fun q hq => by cases hq; exact rfl) rfl rfl (by decide) k_m nd ?_
            refine g_aload_n (pc := 138) d_MO_readToken_138 rfl 0 rfl ?_
            refine g_dup (pc := 139) d_MO_readToken_139 rfl ?_
            refine g_lgI0 (pc := 140) (ci := 7) (f := 8) rfl d_MO_readToken_140 fl_MO_174 (by decide) k_m nd ?_
            refine g_top (y := nI nx) rfl ?_
            refine g_iconst (pc := 143) (v := 1) d_MO_readToken_143 (by decide) ?_
            refine g_iadd (pc := 144) d_MO_readToken_144 ?_
            refine g_top (nI_1 nx) ?_
            refine g_lpE0 (pc := 145) (ci := 7) (f := 8) (hg := rM_p8 (x := (nx + 1))) rfl d_MO_readToken_145 fl_MO_174 (fun q hq => by cases hq; exact rfl) rfl rfl (by decide) k_m nd ?_
            refine g_vret (pc := 148) d_MO_readToken_148 rfl ?_
            first
            | (have hk : (if nx < n then X_kind (T nx) else 0) = 2 := (by rw [if_pos hj]; unfold X_kind; rw [if_neg (by rw [z1]; decide), if_pos z2]); rw [X_tok_at hs hk, Z_val_at hs hk]; exact ⟨rfl, rfl⟩)
            | (have hk : (if nx < n then X_kind (T nx) else 0) = 3 := (by rw [if_pos hj]; unfold X_kind; rw [if_neg (by rw [z1]; decide), if_neg (by rw [z2]; decide), if_pos c_127]); rw [X_tok_at hs hk, Z_val_at hs hk]; exact ⟨rfl, rfl⟩)
            | (have hk : (if nx < n then X_kind (T nx) else 0) = 4 := (by rw [if_pos hj]; unfold X_kind; rw [if_neg (by rw [z1]; decide), if_neg (by rw [z2]; decide), if_neg c_127]); rw [X_tok_at hs hk, Z_val_at hs hk]; exact ⟨rfl, rfl⟩)
        · skip
          have z2 := bI_n0 c_101
          refine g_aload_n (pc := 104) d_MO_readToken_104 rfl 0 rfl ?_
          refine g_iconst (pc := 105) (v := 2) d_MO_readToken_105 (by decide) ?_
          refine g_lpE0 (pc := 106) (ci := 7) (f := 9) (hg := rM_p9 (x := (2))) rfl d_MO_readToken_106 fl_MO_184 (fun q hq => by cases hq; exact rfl) rfl rfl (by decide) k_m nd ?_
          refine g_aload_n (pc := 109) d_MO_readToken_109 rfl 0 rfl ?_
          refine g_cV0 (pc := 110) (ci := 7) (As := []) d_MO_readToken_110 rfl mv_MO_readNumber st_MO_readToken_190 rfl rfl (by decide) rfl rfl (Nat.le_of_ble_eq_true rfl) k_m (cm_MO_readNumber hM nd hn hc hT hx) ?_
          refine g_goto (pc := 113) (tgt := 148) d_MO_readToken_113 (by decide) ?_
          refine g_vret (pc := 148) d_MO_readToken_148 rfl ?_
          first
          | (have hk : (if nx < n then X_kind (T nx) else 0) = 2 := (by rw [if_pos hj]; unfold X_kind; rw [if_neg (by rw [z1]; decide), if_pos z2]); rw [X_tok_at hs hk, Z_val_at hs hk]; exact ⟨rfl, rfl⟩)
          | (have hk : (if nx < n then X_kind (T nx) else 0) = 3 := (by rw [if_pos hj]; unfold X_kind; rw [if_neg (by rw [z1]; decide), if_neg (by rw [z2]; decide), if_pos c_127]); rw [X_tok_at hs hk, Z_val_at hs hk]; exact ⟨rfl, rfl⟩)
          | (have hk : (if nx < n then X_kind (T nx) else 0) = 4 := (by rw [if_pos hj]; unfold X_kind; rw [if_neg (by rw [z1]; decide), if_neg (by rw [z2]; decide), if_neg c_127]); rw [X_tok_at hs hk, Z_val_at hs hk]; exact ⟨rfl, rfl⟩)
      · skip
        have z1 := bI_n0 c_61
        refine g_aload_n (pc := 64) d_MO_readToken_64 rfl 0 rfl ?_
        refine g_iconst (pc := 65) (v := 1) d_MO_readToken_65 (by decide) ?_
        refine g_lpE0 (pc := 66) (ci := 7) (f := 9) (hg := rM_p9 (x := (1))) rfl d_MO_readToken_66 fl_MO_184 (fun q hq => by cases hq; exact rfl) rfl rfl (by decide) k_m nd ?_
        have hk : (if nx < n then X_kind (T nx) else 0) = 1 := (by rw [if_pos hj]; unfold X_kind; rw [if_pos z1])
        rw [X_tok_at hs hk, Z_val_at hs hk]
        exact lp_MO_letters hM nd hn hc hT (n + 1) nx hx (by omega)
    · exact absurd ((nI_eq (by omega) (by omega)).mp c_42) (by omega)
  · skip
    refine g_aload_n (pc := 26) d_MO_readToken_26 rfl 0 rfl ?_
    refine g_aload_n (pc := 27) d_MO_readToken_27 rfl 0 rfl ?_
    refine g_lgI0 (pc := 28) (ci := 7) (f := 8) rfl d_MO_readToken_28 fl_MO_174 (by decide) k_m nd ?_
    refine g_top (y := nI nx) rfl ?_
    refine g_lpE0 (pc := 31) (ci := 7) (f := 10) (hg := rM_p10 (x := nx)) rfl d_MO_readToken_31 fl_MO_181 (fun q hq => by cases hq; exact rfl) rfl rfl (by decide) k_m nd ?_
    refine g_aload_n (pc := 34) d_MO_readToken_34 rfl 0 rfl ?_
    refine g_lgI0 (pc := 35) (ci := 7) (f := 8) rfl d_MO_readToken_35 fl_MO_174 (by decide) k_m nd ?_
    refine g_top (y := nI nx) rfl ?_
    refine g_aload_n (pc := 38) d_MO_readToken_38 rfl 0 rfl ?_
    refine g_lgI0 (pc := 39) (ci := 7) (f := 5) rfl d_MO_readToken_39 fl_MO_151 (by decide) k_m nd ?_
    refine g_top (y := nI n) hc ?_
    refine g_icmp_ne (pc := 42) (tgt := 53) d_MO_readToken_42 (by decide) (fun c_42 => ?_) (fun c_42 => ?_)
    · exact absurd (congrArg nI (show nx = n by omega)) c_42
    · skip
      refine g_aload_n (pc := 45) d_MO_readToken_45 rfl 0 rfl ?_
      refine g_iconst (pc := 46) (v := 0) d_MO_readToken_46 (by decide) ?_
      refine g_lpE0 (pc := 47) (ci := 7) (f := 9) (hg := rM_p9 (x := (0))) rfl d_MO_readToken_47 fl_MO_184 (fun q hq => by cases hq; exact rfl) rfl rfl (by decide) k_m nd ?_
      refine g_goto (pc := 50) (tgt := 148) d_MO_readToken_50 (by decide) ?_
      refine g_vret (pc := 148) d_MO_readToken_148 rfl ?_
      have hk : (if nx < n then X_kind (T nx) else 0) = 0 := if_neg hj
      rw [X_tok_at hs hk, Z_val_at hs hk]
      exact ⟨rfl, rfl⟩
theorem lp_MO_spaces {E : En} {h : Hp} {m st mi nu co wd n : Nat} {c0 G0 T Ti N K : Nat → Int32} {R : List (Nat × (Nat → Int32))} {cm k at9 e : Nat} {v e6 e7 : Int32} (hM : MpOk h m st mi nu co wd) (nd : (m :: st :: mi :: nu :: co :: wd :: R.map Prod.fst).Nodup) (hn : n ≤ 500) (hc : c0 5 = nI n) (hT : ∀ j, j < n → Ti j = T j) : ∀ (d nx : Nat), nx ≤ n → X_wh X_sp T (n - e) e = X_wh X_sp T (n - nx) nx → n - nx < d → G E m_MO_readToken 0 [(0, .ref m)] [] (wL h ((m, (rM c0 cm nx k at9 v e6 e7)) :: (st, G0) :: (mi, Ti) :: (nu, N) :: (co, K) :: (wd, wdR) :: R)) 0 0 (fun v1 h1 => v1 = none ∧ h1 = wL h ((m, (rM c0 cm (X_tok T n e).2.2 (X_tok T n e).1 (X_tok T n e).2.1 (Z_val T n e v) e6 e7)) :: (st, G0) :: (mi, Ti) :: (nu, N) :: (co, K) :: (wd, wdR) :: R)) noX := by
  obtain ⟨k_m, r_m_0, k_st, l_st, r_m_4, k_mi, l_mi, r_m_12, k_nu, l_nu, r_m_13, k_co, l_co, r_m_18, k_wd, l_wd⟩ := id hM
  intro d
  induction d with
  | zero => intros; omega
  | succ d ih =>
    intro nx hx hs hd
    by_cases hj : nx < n
    · skip
      refine g_aload_n (pc := 0) d_MO_readToken_0 rfl 0 rfl ?_
      refine g_aload_n (pc := 1) d_MO_readToken_1 rfl 0 rfl ?_
      refine g_lgI0 (pc := 2) (ci := 7) (f := 8) rfl d_MO_readToken_2 fl_MO_174 (by decide) k_m nd ?_
      refine g_top (y := nI nx) rfl ?_
      refine g_cV1 (pc := 5) (ci := 7) (As := [.int _]) d_MO_readToken_5 rfl mv_MO_byteAt st_MO_readToken_168 rfl rfl (by decide) rfl rfl (Nat.le_of_ble_eq_true rfl) k_m (cm_MO_byteAt hM nd hn hc hT hj) ?_
      refine g_bipush (pc := 8) (v := 32) d_MO_readToken_8 (by decide) ?_
      refine g_icmp_ne (pc := 10) (tgt := 26) d_MO_readToken_10 (by decide) (fun c_10 => ?_) (fun c_10 => ?_)
      · skip
        have z : ¬ X_sp (T nx) = true := fun q => c_10 (of_decide_eq_true q)
        rw [X_wh_f (fun _ => z)] at hs
        exact lp_MO_token hM nd hn hc hT hx hs (fun _ => z)
      · skip
        have z : X_sp (T nx) = true := decide_eq_true c_10
        refine g_aload_n (pc := 13) d_MO_readToken_13 rfl 0 rfl ?_
        refine g_dup (pc := 14) d_MO_readToken_14 rfl ?_
        refine g_lgI0 (pc := 15) (ci := 7) (f := 8) rfl d_MO_readToken_15 fl_MO_174 (by decide) k_m nd ?_
        refine g_top (y := nI nx) rfl ?_
        refine g_iconst (pc := 18) (v := 1) d_MO_readToken_18 (by decide) ?_
        refine g_iadd (pc := 19) d_MO_readToken_19 ?_
        refine g_top (nI_1 nx) ?_
        refine g_lpE0 (pc := 20) (ci := 7) (f := 8) (hg := rM_p8 (x := (nx + 1))) rfl d_MO_readToken_20 fl_MO_174 (fun q hq => by cases hq; exact rfl) rfl rfl (by decide) k_m nd ?_
        refine g_goto (pc := 23) (tgt := 0) d_MO_readToken_23 (by decide) ?_
        rw [X_wh_t hj z] at hs
        exact ih (nx + 1) (by omega) hs (by omega)
    · skip
      refine g_aload_n (pc := 0) d_MO_readToken_0 rfl 0 rfl ?_
      refine g_aload_n (pc := 1) d_MO_readToken_1 rfl 0 rfl ?_
      refine g_lgI0 (pc := 2) (ci := 7) (f := 8) rfl d_MO_readToken_2 fl_MO_174 (by decide) k_m nd ?_
      refine g_top (y := nI nx) rfl ?_
      refine g_cV1 (pc := 5) (ci := 7) (As := [.int _]) d_MO_readToken_5 rfl mv_MO_byteAt st_MO_readToken_168 rfl rfl (by decide) rfl rfl (Nat.le_of_ble_eq_true rfl) k_m (cm_MO_byteAtN hM nd hn hc hT (by omega) (by omega)) ?_
      refine g_bipush (pc := 8) (v := 32) d_MO_readToken_8 (by decide) ?_
      refine g_icmp_ne (pc := 10) (tgt := 26) d_MO_readToken_10 (by decide) (fun c_10 => ?_) (fun c_10 => ?_)
      · skip
        rw [X_wh_f (fun z => absurd z hj)] at hs
        exact lp_MO_token hM nd hn hc hT hx hs (fun z => absurd z hj)
      · exact absurd c_10 (by decide)
theorem cm_MO_readToken {E : En} {h : Hp} {m st mi nu co wd n : Nat} {c0 G0 T Ti N K : Nat → Int32} {R : List (Nat × (Nat → Int32))} {cm nx k at9 : Nat} {v e6 e7 : Int32} (hM : MpOk h m st mi nu co wd) (nd : (m :: st :: mi :: nu :: co :: wd :: R.map Prod.fst).Nodup) (hn : n ≤ 500) (hc : c0 5 = nI n) (hT : ∀ j, j < n → Ti j = T j) (hx : nx ≤ n) : CR E m_MO_readToken [.ref m] (wL h ((m, (rM c0 cm nx k at9 v e6 e7)) :: (st, G0) :: (mi, Ti) :: (nu, N) :: (co, K) :: (wd, wdR) :: R)) none (wL h ((m, (rM c0 cm (X_tok T n nx).2.2 (X_tok T n nx).1 (X_tok T n nx).2.1 (Z_val T n nx v) e6 e7)) :: (st, G0) :: (mi, Ti) :: (nu, N) :: (co, K) :: (wd, wdR) :: R)) := by
  refine ct_of rfl (by decide +kernel) (Nat.le_of_ble_eq_true rfl) ?_
  exact lp_MO_spaces hM nd hn hc hT (n + 1) nx hx rfl (by omega)
theorem lp_MO_isWordNumber {E : En} {h : Hp} {m st mi nu co wd n : Nat} {c0 G0 T Ti N K : Nat → Int32} {R : List (Nat × (Nat → Int32))} {cm : Nat} {q : Ps} {w : Int32} {wn : Nat} (hM : MpOk h m st mi nu co wd) (nd : (m :: st :: mi :: nu :: co :: wd :: R.map Prod.fst).Nodup) (hn : n ≤ 500) (hc : c0 5 = nI n) (hT : ∀ j, j < n → Ti j = T j) (hq : TW T n q.1) (h1 : q.1.1 = 1) (hw : wn < 9) (h8 : q.1.2.2.1 - q.1.2.1 ≤ 8) : ∀ (d i : Nat), i ≤ 8 → (∀ j, j < i → (j < q.1.2.2.1 - q.1.2.1 → T (q.1.2.1 + j) = wdT.getD (8 * wn + j) 0) ∧ (¬ j < q.1.2.2.1 - q.1.2.1 → wdT.getD (8 * wn + j) 0 = 32)) → 8 - i < d → G E m_MO_isWordNumber 20 [(3, .int (nI i)), (2, .int (nI (q.1.2.2.1 - q.1.2.1))), (0, .ref m), (1, .int (nI wn))] [] (wL h ((m, (rQ c0 cm q w)) :: (st, G0) :: (mi, Ti) :: (nu, N) :: (co, K) :: (wd, wdR) :: R)) 0 0 (fun v1 h9 => v1 = some (.int (bI (Y_isw T q.1 (wn + 1)))) ∧ h9 = wL h ((m, (rQ c0 cm q w)) :: (st, G0) :: (mi, Ti) :: (nu, N) :: (co, K) :: (wd, wdR) :: R)) noX := by
  obtain ⟨k_m, r_m_0, k_st, l_st, r_m_4, k_mi, l_mi, r_m_12, k_nu, l_nu, r_m_13, k_co, l_co, r_m_18, k_wd, l_wd⟩ := id hM
  have tk := hq.1
  intro d
  induction d with
  | zero => intros; omega
  | succ d ih =>
    intro i hi ha hd
    show G E _ 20 _ _ (wL h ((m, (rM c0 cm q.1.2.2.1 q.1.1 q.1.2.1 w q.2.2.1 q.2.2.2)) :: (st, G0) :: (mi, Ti) :: (nu, N) :: (co, K) :: (wd, wdR) :: R)) _ _ _ _
    refine g_iload_n (pc := 20) d_MO_isWordNumber_20 rfl 0 rfl ?_
    refine g_bipush (pc := 21) (v := 8) d_MO_isWordNumber_21 (by decide) ?_
    refine g_icmp_ge (pc := 23) (tgt := 78) d_MO_isWordNumber_23 (by decide) (fun c_23 => ?_) (fun c_23 => ?_)
    · skip
      have e9 : i = 8 := by have := (nI_leI (a := 8) (by omega) (by omega)).mp c_23; omega
      refine g_iconst (pc := 78) (v := 1) d_MO_isWordNumber_78 (by decide) ?_
      refine g_zret (pc := 79) d_MO_isWordNumber_79 rfl (by first | rfl | exact nar_bI _) ?_
      rw [show Y_isw T q.1 (wn + 1) = true from (wn_ok hq h1 hw).mpr ⟨h8, fun j hj => ha j (by omega)⟩]
      exact ⟨rfl, rfl⟩
    · skip
      have e9 : i < 8 := Nat.lt_of_not_le (fun z => c_23 ((nI_leI (a := 8) (by omega) (by omega)).mpr z))
      refine g_aload_n (pc := 26) d_MO_isWordNumber_26 rfl 2 rfl ?_
      refine g_getR (pc := 27) (ci := 7) (f := 18) (b := wd) rfl r_m_18 d_MO_isWordNumber_27 fl_MO_34 (by decide) k_m ?_
      refine g_bipush (pc := 30) (v := 8) d_MO_isWordNumber_30 (by decide) ?_
      refine g_iload_n (pc := 32) d_MO_isWordNumber_32 rfl 3 rfl ?_
      refine g_imul (pc := 33) d_MO_isWordNumber_33 ?_
      refine g_iload_n (pc := 34) d_MO_isWordNumber_34 rfl 0 rfl ?_
      refine g_iadd (pc := 35) d_MO_isWordNumber_35 ?_
      refine g_top (y := nI (8 * wn + i)) (by show nI 8 * nI wn + nI i = _; rw [nI_mul, nI_add]) ?_
      refine g_lca5 (pc := 36) (j := (8 * wn + i)) d_MO_isWordNumber_36 k_wd l_wd (by first | assumption | omega | decide) (by decide) nd ?_
      refine g_istore (pc := 37) (lv' := [(4, .int (wdT.getD (8 * wn + i) 0)), (3, .int (nI i)), (2, .int (nI (q.1.2.2.1 - q.1.2.1))), (0, .ref m), (1, .int (nI wn))]) d_MO_isWordNumber_37 (by decide) rfl ?_
      refine g_iload_n (pc := 39) d_MO_isWordNumber_39 rfl 1 rfl ?_
      refine g_iload_n (pc := 40) d_MO_isWordNumber_40 rfl 2 rfl ?_
      refine g_icmp_ge (pc := 41) (tgt := 63) d_MO_isWordNumber_41 (by decide) (fun c_41 => ?_) (fun c_41 => ?_)
      · skip
        have e7 : ¬ i < q.1.2.2.1 - q.1.2.1 := by have := (nI_leI (by omega) (by omega)).mp c_41; omega
        refine g_iload (pc := 63) d_MO_isWordNumber_63 0 rfl ?_
        refine g_bipush (pc := 65) (v := 32) d_MO_isWordNumber_65 (by decide) ?_
        refine g_icmp_eq (pc := 67) (tgt := 72) d_MO_isWordNumber_67 (by decide) (fun c_67 => ?_) (fun c_67 => ?_)
        · skip
          obtain ⟨x_1, hx_1⟩ : ∃ y : Int32, y = (nI i) + 1 := ⟨_, rfl⟩
          refine g_iinc (pc := 72) (w := 1) (v := x_1) (lv' := [(3, .int x_1), (4, .int (wdT.getD (8 * wn + i) 0)), (2, .int (nI (q.1.2.2.1 - q.1.2.1))), (0, .ref m), (1, .int (nI wn))]) d_MO_isWordNumber_72 rfl (by rw [hx_1]; rfl) (by decide) rfl ?_
          refine g_goto (pc := 75) (tgt := 20) d_MO_isWordNumber_75 (by decide) ?_
          have e8 : x_1 = nI (i + 1) := by rw [hx_1]; exact nI_1 _
          clear hx_1
          subst e8
          refine g_perm [0, 2, 3, 4] rfl ?_
          refine ih (i + 1) (by omega) (fun j hj => ?_) (by omega)
          by_cases ej : j = i
          · subst ej
            first | exact ⟨fun _ => c_57, fun z => absurd e7 z⟩ | exact ⟨fun z => absurd z e7, fun _ => c_67⟩
          · exact ha j (by omega)
        · skip
          refine g_iconst (pc := 70) (v := 0) d_MO_isWordNumber_70 (by decide) ?_
          refine g_zret (pc := 71) d_MO_isWordNumber_71 rfl (by first | rfl | exact nar_bI _) ?_
          rw [show Y_isw T q.1 (wn + 1) = false from Bool.eq_false_iff.mpr (fun z => ?_)]
          · exact ⟨rfl, rfl⟩
          · have z9 := ((wn_ok hq h1 hw).mp z).2 i e9
            first | exact c_57 (z9.1 e7) | exact c_67 (z9.2 e7)
      · skip
        have e7 : i < q.1.2.2.1 - q.1.2.1 := Nat.lt_of_not_le (fun z => c_41 ((nI_leI (by omega) (by omega)).mpr z))
        refine g_aload_n (pc := 44) d_MO_isWordNumber_44 rfl 3 rfl ?_
        refine g_getR (pc := 45) (ci := 7) (f := 4) (b := mi) rfl r_m_4 d_MO_isWordNumber_45 fl_MO_17 (by decide) k_m ?_
        refine g_aload_n (pc := 48) d_MO_isWordNumber_48 rfl 3 rfl ?_
        refine g_lgI0 (pc := 49) (ci := 7) (f := 10) rfl d_MO_isWordNumber_49 fl_MO_181 (by decide) k_m nd ?_
        refine g_top (y := nI q.1.2.1) rfl ?_
        refine g_iload_n (pc := 52) d_MO_isWordNumber_52 rfl 1 rfl ?_
        refine g_iadd (pc := 53) d_MO_isWordNumber_53 ?_
        refine g_top (y := nI (q.1.2.1 + i)) (by rw [nI_add]) ?_
        have hj : q.1.2.1 + i < n := by have := tk.2.2; omega
        refine g_lba2 (pc := 54) (j := (q.1.2.1 + i)) d_MO_isWordNumber_54 k_mi l_mi (by first | assumption | omega | decide) (by decide) nd ?_
        rw [hT _ hj]
        refine g_iload (pc := 55) d_MO_isWordNumber_55 0 rfl ?_
        refine g_icmp_eq (pc := 57) (tgt := 72) d_MO_isWordNumber_57 (by decide) (fun c_57 => ?_) (fun c_57 => ?_)
        · skip
          obtain ⟨x_2, hx_2⟩ : ∃ y : Int32, y = (nI i) + 1 := ⟨_, rfl⟩
          refine g_iinc (pc := 72) (w := 1) (v := x_2) (lv' := [(3, .int x_2), (4, .int (wdT.getD (8 * wn + i) 0)), (2, .int (nI (q.1.2.2.1 - q.1.2.1))), (0, .ref m), (1, .int (nI wn))]) d_MO_isWordNumber_72 rfl (by rw [hx_2]; rfl) (by decide) rfl ?_
          refine g_goto (pc := 75) (tgt := 20) d_MO_isWordNumber_75 (by decide) ?_
          have e8 : x_2 = nI (i + 1) := by rw [hx_2]; exact nI_1 _
          clear hx_2
          subst e8
          refine g_perm [0, 2, 3, 4] rfl ?_
          refine ih (i + 1) (by omega) (fun j hj => ?_) (by omega)
          by_cases ej : j = i
          · subst ej
            first | exact ⟨fun _ => c_57, fun z => absurd e7 z⟩ | exact ⟨fun z => absurd z e7, fun _ => c_67⟩
          · exact ha j (by omega)
        · skip
          refine g_goto (pc := 60) (tgt := 70) d_MO_isWordNumber_60 (by decide) ?_
          refine g_iconst (pc := 70) (v := 0) d_MO_isWordNumber_70 (by decide) ?_
          refine g_zret (pc := 71) d_MO_isWordNumber_71 rfl (by first | rfl | exact nar_bI _) ?_
          rw [show Y_isw T q.1 (wn + 1) = false from Bool.eq_false_iff.mpr (fun z => ?_)]
          · exact ⟨rfl, rfl⟩
          · have z9 := ((wn_ok hq h1 hw).mp z).2 i e9
            first | exact c_57 (z9.1 e7) | exact c_67 (z9.2 e7)
set_option maxRecDepth 20000 in
theorem cm_MO_isWordNumber {E : En} {h : Hp} {m st mi nu co wd n : Nat} {c0 G0 T Ti N K : Nat → Int32} {R : List (Nat × (Nat → Int32))} {cm : Nat} {q : Ps} {w : Int32} {wn : Nat} (hM : MpOk h m st mi nu co wd) (nd : (m :: st :: mi :: nu :: co :: wd :: R.map Prod.fst).Nodup) (hn : n ≤ 500) (hc : c0 5 = nI n) (hT : ∀ j, j < n → Ti j = T j) (hq : TW T n q.1) (h1 : q.1.1 = 1) (hw : wn < 9) : CR E m_MO_isWordNumber [.ref m, .int (nI wn)] (wL h ((m, (rQ c0 cm q w)) :: (st, G0) :: (mi, Ti) :: (nu, N) :: (co, K) :: (wd, wdR) :: R)) (some (.int (bI (Y_isw T q.1 (wn + 1))))) (wL h ((m, (rQ c0 cm q w)) :: (st, G0) :: (mi, Ti) :: (nu, N) :: (co, K) :: (wd, wdR) :: R)) := by
  refine ct_of rfl (by decide +kernel) (Nat.le_of_ble_eq_true rfl) ?_
  show G E m_MO_isWordNumber 0 [(0, .ref m), (1, .int (nI wn))] [] (wL h ((m, (rQ c0 cm q w)) :: (st, G0) :: (mi, Ti) :: (nu, N) :: (co, K) :: (wd, wdR) :: R)) 0 0 _ noX
  obtain ⟨k_m, r_m_0, k_st, l_st, r_m_4, k_mi, l_mi, r_m_12, k_nu, l_nu, r_m_13, k_co, l_co, r_m_18, k_wd, l_wd⟩ := id hM
  have tk := hq.1
  refine g_aload_n (pc := 0) d_MO_isWordNumber_0 rfl 0 rfl ?_
  refine g_lgI0 (pc := 1) (ci := 7) (f := 8) rfl d_MO_isWordNumber_1 fl_MO_174 (by decide) k_m nd ?_
  refine g_top (y := nI q.1.2.2.1) rfl ?_
  refine g_aload_n (pc := 4) d_MO_isWordNumber_4 rfl 0 rfl ?_
  refine g_lgI0 (pc := 5) (ci := 7) (f := 10) rfl d_MO_isWordNumber_5 fl_MO_181 (by decide) k_m nd ?_
  refine g_top (y := nI q.1.2.1) rfl ?_
  refine g_isub (pc := 8) d_MO_isWordNumber_8 ?_
  refine g_top (y := nI (q.1.2.2.1 - q.1.2.1)) (nI_sub tk.2.1) ?_
  refine g_istore_n (pc := 9) (lv' := [(2, .int (nI (q.1.2.2.1 - q.1.2.1))), (0, .ref m), (1, .int (nI wn))]) d_MO_isWordNumber_9 rfl (by decide) rfl ?_
  refine g_iload_n (pc := 10) d_MO_isWordNumber_10 rfl 0 rfl ?_
  refine g_bipush (pc := 11) (v := 8) d_MO_isWordNumber_11 (by decide) ?_
  refine g_icmp_le (pc := 13) (tgt := 18) d_MO_isWordNumber_13 (by decide) (fun c_13 => ?_) (fun c_13 => ?_)
  · skip
    have h8 : q.1.2.2.1 - q.1.2.1 ≤ 8 := (nI_leI (b := 8) (by have := tk.2.2; omega) (by omega)).mp c_13
    refine g_iconst (pc := 18) (v := 0) d_MO_isWordNumber_18 (by decide) ?_
    refine g_nameI (fun x_1 hx_1 => ?_)
    refine g_istore_n (pc := 19) (lv' := [(3, .int x_1), (2, .int (nI (q.1.2.2.1 - q.1.2.1))), (0, .ref m), (1, .int (nI wn))]) d_MO_isWordNumber_19 rfl (by decide) rfl ?_
    subst hx_1
    exact lp_MO_isWordNumber hM nd hn hc hT hq h1 hw h8 9 0 (Nat.zero_le _) (fun j hj => by omega) (by omega)
  · skip
    have h8 : ¬ q.1.2.2.1 - q.1.2.1 ≤ 8 := fun z => c_13 ((nI_leI (b := 8) (by omega) (by omega)).mpr z)
    refine g_iconst (pc := 16) (v := 0) d_MO_isWordNumber_16 (by decide) ?_
    refine g_zret (pc := 17) d_MO_isWordNumber_17 rfl (by first | rfl | exact nar_bI _) ?_
    rw [show Y_isw T q.1 (wn + 1) = false from Bool.eq_false_iff.mpr (fun z => h8 ((wn_ok hq h1 hw).mp z).1)]
    exact ⟨rfl, rfl⟩
theorem lp_MO_wordOf {E : En} {h : Hp} {m st mi nu co wd n : Nat} {c0 G0 T Ti N K : Nat → Int32} {R : List (Nat × (Nat → Int32))} {cm : Nat} {q : Ps} {w : Int32} (hM : MpOk h m st mi nu co wd) (nd : (m :: st :: mi :: nu :: co :: wd :: R.map Prod.fst).Nodup) (hn : n ≤ 500) (hc : c0 5 = nI n) (hT : ∀ j, j < n → Ti j = T j) (hq : TW T n q.1) (h1 : q.1.1 = 1) : ∀ (d i : Nat), i + d = 9 → G E m_MO_wordOf 13 [(1, .int (nI i)), (0, .ref m)] [] (wL h ((m, (rQ c0 cm q w)) :: (st, G0) :: (mi, Ti) :: (nu, N) :: (co, K) :: (wd, wdR) :: R)) 0 0 (fun v1 h9 => v1 = some (.int (nI (Z_word T q.1 d i))) ∧ h9 = wL h ((m, (rQ c0 cm q w)) :: (st, G0) :: (mi, Ti) :: (nu, N) :: (co, K) :: (wd, wdR) :: R)) noX := by
  obtain ⟨k_m, r_m_0, k_st, l_st, r_m_4, k_mi, l_mi, r_m_12, k_nu, l_nu, r_m_13, k_co, l_co, r_m_18, k_wd, l_wd⟩ := id hM
  intro d
  induction d with
  | zero =>
    intro i hd
    refine g_iload_n (pc := 13) d_MO_wordOf_13 rfl 0 rfl ?_
    refine g_bipush (pc := 14) (v := 9) d_MO_wordOf_14 (by decide) ?_
    refine g_icmp_ge (pc := 16) (tgt := 35) d_MO_wordOf_16 (by decide) (fun c_16 => ?_) (fun c_16 => ?_)
    · skip
      refine g_bipush (pc := 35) (v := 9) d_MO_wordOf_35 (by decide) ?_
      refine g_iret (pc := 37) d_MO_wordOf_37 rfl ?_
      exact ⟨rfl, rfl⟩
    · exact absurd ((nI_leI (a := 9) (b := i) (by omega) (by omega)).mpr (by omega)) c_16
  | succ d ih =>
    intro i hd
    refine g_iload_n (pc := 13) d_MO_wordOf_13 rfl 0 rfl ?_
    refine g_bipush (pc := 14) (v := 9) d_MO_wordOf_14 (by decide) ?_
    refine g_icmp_ge (pc := 16) (tgt := 35) d_MO_wordOf_16 (by decide) (fun c_16 => ?_) (fun c_16 => ?_)
    · exact absurd ((nI_leI (a := 9) (by omega) (by omega)).mp c_16) (by omega)
    · skip
      refine g_aload_n (pc := 19) d_MO_wordOf_19 rfl 1 rfl ?_
      refine g_iload_n (pc := 20) d_MO_wordOf_20 rfl 0 rfl ?_
      refine g_cV1 (pc := 21) (ci := 7) (As := [.int _]) d_MO_wordOf_21 rfl mv_MO_isWordNumber st_MO_wordOf_193 rfl rfl (by decide) rfl rfl (Nat.le_of_ble_eq_true rfl) k_m (cm_MO_isWordNumber hM nd hn hc hT hq h1 (by omega)) ?_
      refine g_if_eq (pc := 24) (tgt := 29) d_MO_wordOf_24 (by decide) (fun c_24 => ?_) (fun c_24 => ?_)
      · skip
        obtain ⟨x_1, hx_1⟩ : ∃ y : Int32, y = (nI i) + 1 := ⟨_, rfl⟩
        refine g_iinc (pc := 29) (w := 0) (v := x_1) (lv' := [(1, .int x_1), (0, .ref m)]) d_MO_wordOf_29 rfl (by rw [hx_1]; rfl) (by decide) rfl ?_
        refine g_goto (pc := 32) (tgt := 13) d_MO_wordOf_32 (by decide) ?_
        have e8 : x_1 = nI (i + 1) := by rw [hx_1]; exact nI_1 _
        clear hx_1
        subst e8
        rw [Z_word, if_neg (fun z => by rw [bI_0.mp c_24] at z; cases z)]
        exact ih (i + 1) (by omega)
      · skip
        refine g_iload_n (pc := 27) d_MO_wordOf_27 rfl 0 rfl ?_
        refine g_iret (pc := 28) d_MO_wordOf_28 rfl ?_
        rw [Z_word, if_pos (bI_n0 c_24)]
        exact ⟨rfl, rfl⟩
theorem Z_word_no {T : Nat → Int32} {t : Tk} (h : t.1 ≠ 1) : ∀ d w, Z_word T t d w = 9
  | 0, _ => rfl
  | d + 1, w => by
    rw [Z_word, if_neg, Z_word_no h d]
    unfold Y_isw X_isw
    rw [decide_eq_false h]
    simp
set_option maxRecDepth 20000 in
theorem cm_MO_wordOf {E : En} {h : Hp} {m st mi nu co wd n : Nat} {c0 G0 T Ti N K : Nat → Int32} {R : List (Nat × (Nat → Int32))} {cm : Nat} {q : Ps} {w : Int32} (hM : MpOk h m st mi nu co wd) (nd : (m :: st :: mi :: nu :: co :: wd :: R.map Prod.fst).Nodup) (hn : n ≤ 500) (hc : c0 5 = nI n) (hT : ∀ j, j < n → Ti j = T j) (hq : TW T n q.1) : CR E m_MO_wordOf [.ref m] (wL h ((m, (rQ c0 cm q w)) :: (st, G0) :: (mi, Ti) :: (nu, N) :: (co, K) :: (wd, wdR) :: R)) (some (.int (nI (Z_word T q.1 9 0)))) (wL h ((m, (rQ c0 cm q w)) :: (st, G0) :: (mi, Ti) :: (nu, N) :: (co, K) :: (wd, wdR) :: R)) := by
  refine ct_of rfl (by decide +kernel) (Nat.le_of_ble_eq_true rfl) ?_
  show G E m_MO_wordOf 0 [(0, .ref m)] [] (wL h ((m, (rQ c0 cm q w)) :: (st, G0) :: (mi, Ti) :: (nu, N) :: (co, K) :: (wd, wdR) :: R)) 0 0 _ noX
  obtain ⟨k_m, r_m_0, k_st, l_st, r_m_4, k_mi, l_mi, r_m_12, k_nu, l_nu, r_m_13, k_co, l_co, r_m_18, k_wd, l_wd⟩ := id hM
  refine g_aload_n (pc := 0) d_MO_wordOf_0 rfl 0 rfl ?_
  refine g_lgI0 (pc := 1) (ci := 7) (f := 9) rfl d_MO_wordOf_1 fl_MO_184 (by decide) k_m nd ?_
  refine g_top (y := nI q.1.1) rfl ?_
  refine g_iconst (pc := 4) (v := 1) d_MO_wordOf_4 (by decide) ?_
  refine g_icmp_eq (pc := 5) (tgt := 11) d_MO_wordOf_5 (by decide) (fun c_5 => ?_) (fun c_5 => ?_)
  · skip
    have h1 : q.1.1 = 1 := (nI_eq (b := 1) (by have := hq.1.1; omega) (by omega)).mp c_5
    refine g_iconst (pc := 11) (v := 0) d_MO_wordOf_11 (by decide) ?_
    refine g_nameI (fun x_1 hx_1 => ?_)
    refine g_istore_n (pc := 12) (lv' := [(1, .int x_1), (0, .ref m)]) d_MO_wordOf_12 rfl (by decide) rfl ?_
    subst hx_1
    exact lp_MO_wordOf hM nd hn hc hT hq h1 9 0 rfl
  · skip
    have h1 : q.1.1 ≠ 1 := fun z => c_5 (by rw [z]; rfl)
    refine g_bipush (pc := 8) (v := 9) d_MO_wordOf_8 (by decide) ?_
    refine g_iret (pc := 10) d_MO_wordOf_10 rfl ?_
    rw [Z_word_no h1]
    exact ⟨rfl, rfl⟩
set_option maxRecDepth 20000 in
theorem cm_MO_fails {E : En} {h : Hp} {m st mi nu co wd n : Nat} {c0 G0 T Ti N K : Nat → Int32} {R : List (Nat × (Nat → Int32))} {cm : Nat} {q : Ps} {w : Int32} {v : Int32} (hM : MpOk h m st mi nu co wd) (nd : (m :: st :: mi :: nu :: co :: wd :: R.map Prod.fst).Nodup) (hn : n ≤ 500) (hc : c0 5 = nI n) (hT : ∀ j, j < n → Ti j = T j) : CR E m_MO_fails [.ref m, .int v] (wL h ((m, (rQ c0 cm q w)) :: (st, G0) :: (mi, Ti) :: (nu, N) :: (co, K) :: (wd, wdR) :: R)) (some (.int 1)) (wL h ((m, (rQ c0 cm (Y_fail v q) w)) :: (st, G0) :: (mi, Ti) :: (nu, N) :: (co, K) :: (wd, wdR) :: R)) := by
  refine ct_of rfl (by decide +kernel) (Nat.le_of_ble_eq_true rfl) ?_
  show G E m_MO_fails 0 [(0, .ref m), (1, .int v)] [] (wL h ((m, (rQ c0 cm q w)) :: (st, G0) :: (mi, Ti) :: (nu, N) :: (co, K) :: (wd, wdR) :: R)) 0 0 _ noX
  obtain ⟨k_m, r_m_0, k_st, l_st, r_m_4, k_mi, l_mi, r_m_12, k_nu, l_nu, r_m_13, k_co, l_co, r_m_18, k_wd, l_wd⟩ := id hM
  refine g_aload_n (pc := 0) d_MO_fails_0 rfl 0 rfl ?_
  refine g_iload_n (pc := 1) d_MO_fails_1 rfl 1 rfl ?_
  refine g_lpE0 (pc := 2) (ci := 7) (f := 6) (hg := rM_p6 (x := v)) rfl d_MO_fails_2 fl_MO_165 (fun q hq => by cases hq; exact rfl) rfl rfl (by decide) k_m nd ?_
  refine g_aload_n (pc := 5) d_MO_fails_5 rfl 0 rfl ?_
  refine g_aload_n (pc := 6) d_MO_fails_6 rfl 0 rfl ?_
  refine g_lgI0 (pc := 7) (ci := 7) (f := 10) rfl d_MO_fails_7 fl_MO_181 (by decide) k_m nd ?_
  refine g_top (y := nI q.1.2.1) rfl ?_
  refine g_lpE0 (pc := 10) (ci := 7) (f := 7) (hg := rM_p7 (x := (nI q.1.2.1))) rfl d_MO_fails_10 fl_MO_21 (fun q hq => by cases hq; exact rfl) rfl rfl (by decide) k_m nd ?_
  refine g_iconst (pc := 13) (v := 1) d_MO_fails_13 (by decide) ?_
  refine g_zret (pc := 14) d_MO_fails_14 rfl (by first | rfl | exact nar_bI _) ?_
  exact ⟨rfl, rfl⟩
set_option maxRecDepth 20000 in
theorem cm_MO_beginText {E : En} {h : Hp} {m st mi nu co wd n : Nat} {c0 G0 T Ti N K : Nat → Int32} {R : List (Nat × (Nat → Int32))} {cm nx k at9 : Nat} {v e6 e7 : Int32} (hM : MpOk h m st mi nu co wd) (nd : (m :: st :: mi :: nu :: co :: wd :: R.map Prod.fst).Nodup) (hn : n ≤ 500) (hc : c0 5 = nI n) (hT : ∀ j, j < n → Ti j = T j) : CR E m_MO_beginText [.ref m] (wL h ((m, (rM c0 cm nx k at9 v e6 e7)) :: (st, G0) :: (mi, Ti) :: (nu, N) :: (co, K) :: (wd, wdR) :: R)) (none) (wL h ((m, (rM c0 0 (X_tok T n 0).2.2 (X_tok T n 0).1 (X_tok T n 0).2.1 (Z_val T n 0 v) 0 (-1))) :: (st, G0) :: (mi, Ti) :: (nu, N) :: (co, K) :: (wd, wdR) :: R)) := by
  refine ct_of rfl (by decide +kernel) (Nat.le_of_ble_eq_true rfl) ?_
  show G E m_MO_beginText 0 [(0, .ref m)] [] (wL h ((m, (rM c0 cm nx k at9 v e6 e7)) :: (st, G0) :: (mi, Ti) :: (nu, N) :: (co, K) :: (wd, wdR) :: R)) 0 0 _ noX
  obtain ⟨k_m, r_m_0, k_st, l_st, r_m_4, k_mi, l_mi, r_m_12, k_nu, l_nu, r_m_13, k_co, l_co, r_m_18, k_wd, l_wd⟩ := id hM
  refine g_aload_n (pc := 0) d_MO_beginText_0 rfl 0 rfl ?_
  refine g_iconst (pc := 1) (v := 0) d_MO_beginText_1 (by decide) ?_
  refine g_lpE0 (pc := 2) (ci := 7) (f := 8) (hg := rM_p8 (x := (0))) rfl d_MO_beginText_2 fl_MO_174 (fun q hq => by cases hq; exact rfl) rfl rfl (by decide) k_m nd ?_
  refine g_aload_n (pc := 5) d_MO_beginText_5 rfl 0 rfl ?_
  refine g_iconst (pc := 6) (v := 0) d_MO_beginText_6 (by decide) ?_
  refine g_lpE0 (pc := 7) (ci := 7) (f := 6) (hg := rM_p6 (x := (0))) rfl d_MO_beginText_7 fl_MO_165 (fun q hq => by cases hq; exact rfl) rfl rfl (by decide) k_m nd ?_
  refine g_aload_n (pc := 10) d_MO_beginText_10 rfl 0 rfl ?_
  refine g_iconst (pc := 11) (v := (-1)) d_MO_beginText_11 (by decide) ?_
  refine g_lpE0 (pc := 12) (ci := 7) (f := 7) (hg := rM_p7 (x := (-1))) rfl d_MO_beginText_12 fl_MO_21 (fun q hq => by cases hq; exact rfl) rfl rfl (by decide) k_m nd ?_
  refine g_aload_n (pc := 15) d_MO_beginText_15 rfl 0 rfl ?_
  refine g_iconst (pc := 16) (v := 0) d_MO_beginText_16 (by decide) ?_
  refine g_lpE0 (pc := 17) (ci := 7) (f := 14) (hg := rM_p14 (x := (0))) rfl d_MO_beginText_17 fl_MO_196 (fun q hq => by cases hq; exact rfl) rfl rfl (by decide) k_m nd ?_
  refine g_aload_n (pc := 20) d_MO_beginText_20 rfl 0 rfl ?_
  refine g_cV0 (pc := 21) (ci := 7) (As := []) d_MO_beginText_21 rfl mv_MO_readToken st_MO_beginText_199 rfl rfl (by decide) rfl rfl (Nat.le_of_ble_eq_true rfl) k_m (cm_MO_readToken hM nd hn hc hT (by omega)) ?_
  refine g_vret (pc := 24) d_MO_beginText_24 rfl ?_
  exact ⟨rfl, rfl⟩
set_option maxRecDepth 20000 in
theorem cm_MO_failsAtThis {E : En} {h : Hp} {m st mi nu co wd n : Nat} {c0 G0 T Ti N K : Nat → Int32} {R : List (Nat × (Nat → Int32))} {cm : Nat} {q : Ps} {w : Int32} {p : Nat} {lo hi : Int32} (hM : MpOk h m st mi nu co wd) (nd : (m :: st :: mi :: nu :: co :: wd :: R.map Prod.fst).Nodup) (hn : n ≤ 500) (hc : c0 5 = nI n) (hT : ∀ j, j < n → Ti j = T j) (hv : VQ q w) (hk4 : q.1.1 ≤ 4) (hp : p < 8) (hl : 0 ≤ lo.toInt) (hh : hi.toInt ≤ 65536) : CR E m_MO_failsAtThis [.ref m, .int (nI p), .int lo, .int hi] (wL h ((m, (rQ c0 cm q w)) :: (st, G0) :: (mi, Ti) :: (nu, N) :: (co, K) :: (wd, wdR) :: R)) (some (.int (bI (!(Y_in lo hi q).1)))) (wL h ((m, (rQ c0 cm (Y_in lo hi q).2 w)) :: (st, G0) :: (mi, Ti) :: (nu, (if (Y_in lo hi q).1 = true then u1 N p q.1.2.2.2 else N)) :: (co, K) :: (wd, wdR) :: R)) := by
  refine ct_of rfl (by decide +kernel) (Nat.le_of_ble_eq_true rfl) ?_
  show G E m_MO_failsAtThis 0 [(0, .ref m), (1, .int (nI p)), (2, .int lo), (3, .int hi)] [] (wL h ((m, (rQ c0 cm q w)) :: (st, G0) :: (mi, Ti) :: (nu, N) :: (co, K) :: (wd, wdR) :: R)) 0 0 _ noX
  obtain ⟨k_m, r_m_0, k_st, l_st, r_m_4, k_mi, l_mi, r_m_12, k_nu, l_nu, r_m_13, k_co, l_co, r_m_18, k_wd, l_wd⟩ := id hM
  refine g_aload_n (pc := 0) d_MO_failsAtThis_0 rfl 0 rfl ?_
  refine g_lgI0 (pc := 1) (ci := 7) (f := 9) rfl d_MO_failsAtThis_1 fl_MO_184 (by decide) k_m nd ?_
  refine g_top (y := nI q.1.1) rfl ?_
  refine g_iconst (pc := 4) (v := 2) d_MO_failsAtThis_4 (by decide) ?_
  refine g_icmp_eq (pc := 5) (tgt := 14) d_MO_failsAtThis_5 (by decide) (fun c_5 => ?_) (fun c_5 => ?_)
  · skip
    have e2 : q.1.1 = 2 := (nI_eq (b := 2) (by omega) (by omega)).mp c_5
    have vi := VR_in (hv e2) hl hh
    refine g_aload_n (pc := 14) d_MO_failsAtThis_14 rfl 0 rfl ?_
    refine g_lgI0 (pc := 15) (ci := 7) (f := 11) rfl d_MO_failsAtThis_15 fl_MO_171 (by decide) k_m nd ?_
    refine g_top (y := w) rfl ?_
    refine g_iload_n (pc := 18) d_MO_failsAtThis_18 rfl 2 rfl ?_
    refine g_iload_n (pc := 19) d_MO_failsAtThis_19 rfl 3 rfl ?_
    refine g_cS1 (pc := 20) (As := [.int _, .int _, .int _]) d_MO_failsAtThis_20 rfl ms_MO_in st_MO_failsAtThis_161 rfl rfl (Nat.le_of_ble_eq_true rfl) (cm_MO_inB ) ?_
    refine g_if_ne (pc := 23) (tgt := 32) d_MO_failsAtThis_23 (by decide) (fun c_23 => ?_) (fun c_23 => ?_)
    · skip
      have z := bI_n0 c_23
      simp only [Bool.and_eq_true, decide_eq_true_eq] at z
      refine g_aload_n (pc := 32) d_MO_failsAtThis_32 rfl 0 rfl ?_
      refine g_getR (pc := 33) (ci := 7) (f := 12) (b := nu) rfl r_m_12 d_MO_failsAtThis_33 fl_MO_25 (by decide) k_m ?_
      refine g_iload_n (pc := 36) d_MO_failsAtThis_36 rfl 1 rfl ?_
      refine g_aload_n (pc := 37) d_MO_failsAtThis_37 rfl 0 rfl ?_
      refine g_lgI0 (pc := 38) (ci := 7) (f := 11) rfl d_MO_failsAtThis_38 fl_MO_171 (by decide) k_m nd ?_
      refine g_top (y := w) rfl ?_
      refine g_lis3 (pc := 41) (j := p) d_MO_failsAtThis_41 k_nu l_nu (by first | assumption | omega | decide) (by decide) nd ?_
      refine g_iconst (pc := 42) (v := 0) d_MO_failsAtThis_42 (by decide) ?_
      refine g_zret (pc := 43) d_MO_failsAtThis_43 rfl (by first | rfl | exact nar_bI _) ?_
      have ey : (Y_in lo hi q) = (true, q) := by unfold Y_in; rw [if_pos e2, if_pos (vi.1.mp z)]
      rw [ey, if_pos rfl, ← vi.2 (vi.1.mp z)]
      exact ⟨rfl, rfl⟩
    · skip
      have z := bI_0.mp c_23
      have z9 : ¬ (lo ≤ w ∧ w ≤ hi) := fun y => by rw [decide_eq_true y.1, decide_eq_true y.2] at z; cases z
      refine g_aload_n (pc := 26) d_MO_failsAtThis_26 rfl 0 rfl ?_
      refine g_iconst (pc := 27) (v := 2) d_MO_failsAtThis_27 (by decide) ?_
      refine g_cV1 (pc := 28) (ci := 7) (As := [.int _]) d_MO_failsAtThis_28 rfl mv_MO_fails st_MO_failsAtThis_202 rfl rfl (by decide) rfl rfl (Nat.le_of_ble_eq_true rfl) k_m (cm_MO_fails hM nd hn hc hT) ?_
      refine g_zret (pc := 31) d_MO_failsAtThis_31 rfl (by first | rfl | exact nar_bI _) ?_
      have ey : (Y_in lo hi q) = (false, Y_fail 2 q) := by unfold Y_in; rw [if_pos e2, if_neg (fun y => z9 (vi.1.mpr y))]
      rw [ey]
      exact ⟨rfl, rfl⟩
  · skip
    have e2 : ¬ q.1.1 = 2 := fun z => c_5 (by rw [z]; rfl)
    refine g_aload_n (pc := 8) d_MO_failsAtThis_8 rfl 0 rfl ?_
    refine g_iconst (pc := 9) (v := 1) d_MO_failsAtThis_9 (by decide) ?_
    refine g_cV1 (pc := 10) (ci := 7) (As := [.int _]) d_MO_failsAtThis_10 rfl mv_MO_fails st_MO_failsAtThis_202 rfl rfl (by decide) rfl rfl (Nat.le_of_ble_eq_true rfl) k_m (cm_MO_fails hM nd hn hc hT) ?_
    refine g_zret (pc := 13) d_MO_failsAtThis_13 rfl (by first | rfl | exact nar_bI _) ?_
    have ey : (Y_in lo hi q) = (false, Y_fail 1 q) := by unfold Y_in; rw [if_neg e2]
    rw [ey]
    exact ⟨rfl, rfl⟩
set_option maxRecDepth 20000 in
theorem cm_MO_failsAtNumber {E : En} {h : Hp} {m st mi nu co wd n : Nat} {c0 G0 T Ti N K : Nat → Int32} {R : List (Nat × (Nat → Int32))} {cm e k at9 p : Nat} {q : Ps} {w0 lo hi : Int32} (hM : MpOk h m st mi nu co wd) (nd : (m :: st :: mi :: nu :: co :: wd :: R.map Prod.fst).Nodup) (hn : n ≤ 500) (hc : c0 5 = nI n) (hT : ∀ j, j < n → Ti j = T j) (hb : BH T n e q) (hp : p < 8) (hl : 0 ≤ lo.toInt) (hh : hi.toInt ≤ 65536) : CR E m_MO_failsAtNumber [.ref m, .int (nI p), .int lo, .int hi] (wL h ((m, (rM c0 cm e k at9 w0 q.2.2.1 q.2.2.2)) :: (st, G0) :: (mi, Ti) :: (nu, N) :: (co, K) :: (wd, wdR) :: R)) (some (.int (bI (!(Y_in lo hi q).1)))) (wL h ((m, (rQ c0 cm (Y_in lo hi q).2 (Z_val T n e w0))) :: (st, G0) :: (mi, Ti) :: (nu, (if (Y_in lo hi q).1 = true then u1 N p q.1.2.2.2 else N)) :: (co, K) :: (wd, wdR) :: R)) := by
  refine ct_of rfl (by decide +kernel) (Nat.le_of_ble_eq_true rfl) ?_
  show G E m_MO_failsAtNumber 0 [(0, .ref m), (1, .int (nI p)), (2, .int lo), (3, .int hi)] [] (wL h ((m, (rM c0 cm e k at9 w0 q.2.2.1 q.2.2.2)) :: (st, G0) :: (mi, Ti) :: (nu, N) :: (co, K) :: (wd, wdR) :: R)) 0 0 _ noX
  obtain ⟨k_m, r_m_0, k_st, l_st, r_m_4, k_mi, l_mi, r_m_12, k_nu, l_nu, r_m_13, k_co, l_co, r_m_18, k_wd, l_wd⟩ := id hM
  refine g_aload_n (pc := 0) d_MO_failsAtNumber_0 rfl 0 rfl ?_
  refine g_cV0 (pc := 1) (ci := 7) (As := []) d_MO_failsAtNumber_1 rfl mv_MO_readToken st_MO_failsAtNumber_199 rfl rfl (by decide) rfl rfl (Nat.le_of_ble_eq_true rfl) k_m (cm_MO_readToken hM nd hn hc hT hb.1) ?_
  rw [hb.rq]
  refine g_aload_n (pc := 4) d_MO_failsAtNumber_4 rfl 0 rfl ?_
  refine g_iload_n (pc := 5) d_MO_failsAtNumber_5 rfl 1 rfl ?_
  refine g_iload_n (pc := 6) d_MO_failsAtNumber_6 rfl 2 rfl ?_
  refine g_iload_n (pc := 7) d_MO_failsAtNumber_7 rfl 3 rfl ?_
  refine g_cV1 (pc := 8) (ci := 7) (As := [.int _, .int _, .int _]) d_MO_failsAtNumber_8 rfl mv_MO_failsAtThis st_MO_failsAtNumber_205 rfl rfl (by decide) rfl rfl (Nat.le_of_ble_eq_true rfl) k_m (cm_MO_failsAtThis (q := q) (w := Z_val T n e w0) hM nd hn hc hT hb.vq hb.tw.1.1 hp hl hh) ?_
  refine g_zret (pc := 11) d_MO_failsAtNumber_11 rfl (by first | rfl | exact nar_bI _) ?_
  exact ⟨rfl, rfl⟩
set_option maxRecDepth 20000 in
theorem ce_MO_failsAtEnd {E : En} {h : Hp} {m st mi nu co wd n : Nat} {c0 G0 T Ti N K : Nat → Int32} {R : List (Nat × (Nat → Int32))} {cm : Nat} {q : Ps} {w : Int32} (hM : MpOk h m st mi nu co wd) (nd : (m :: st :: mi :: nu :: co :: wd :: R.map Prod.fst).Nodup) (hn : n ≤ 500) (hc : c0 5 = nI n) (hT : ∀ j, j < n → Ti j = T j) (hq : TW T n q.1) (hv : VQ q w) : CT E m_MO_failsAtEnd [.ref m] (wL h ((m, (rQ c0 cm q w)) :: (st, G0) :: (mi, Ti) :: (nu, N) :: (co, K) :: (wd, wdR) :: R)) 0 0 (fun v1 h9 => ∃ z : Int32, (VQ (Y_semi T n q).2 z ∧ TW T n (Y_semi T n q).2.1) ∧ v1 = some (.int (bI (!(Y_semi T n q).1))) ∧ h9 = wL h ((m, (rQ c0 cm (Y_semi T n q).2 z)) :: (st, G0) :: (mi, Ti) :: (nu, N) :: (co, K) :: (wd, wdR) :: R)) noX := by
  refine ct_of rfl (by decide +kernel) (Nat.le_of_ble_eq_true rfl) ?_
  show G E m_MO_failsAtEnd 0 [(0, .ref m)] [] (wL h ((m, (rQ c0 cm q w)) :: (st, G0) :: (mi, Ti) :: (nu, N) :: (co, K) :: (wd, wdR) :: R)) 0 0 _ noX
  obtain ⟨k_m, r_m_0, k_st, l_st, r_m_4, k_mi, l_mi, r_m_12, k_nu, l_nu, r_m_13, k_co, l_co, r_m_18, k_wd, l_wd⟩ := id hM
  refine g_aload_n (pc := 0) d_MO_failsAtEnd_0 rfl 0 rfl ?_
  refine g_lgI0 (pc := 1) (ci := 7) (f := 9) rfl d_MO_failsAtEnd_1 fl_MO_184 (by decide) k_m nd ?_
  refine g_top (y := nI q.1.1) rfl ?_
  refine g_iconst (pc := 4) (v := 3) d_MO_failsAtEnd_4 (by decide) ?_
  refine g_icmp_eq (pc := 5) (tgt := 14) d_MO_failsAtEnd_5 (by decide) (fun c_5 => ?_) (fun c_5 => ?_)
  · skip
    have e3 : q.1.1 = 3 := (nI_eq (b := 3) (by have := hq.1.1; omega) (by omega)).mp c_5
    refine g_aload_n (pc := 14) d_MO_failsAtEnd_14 rfl 0 rfl ?_
    refine g_cV0 (pc := 15) (ci := 7) (As := []) d_MO_failsAtEnd_15 rfl mv_MO_readToken st_MO_failsAtEnd_199 rfl rfl (by decide) rfl rfl (Nat.le_of_ble_eq_true rfl) k_m (cm_MO_readToken hM nd hn hc hT hq.1.2.2) ?_
    refine g_iconst (pc := 18) (v := 0) d_MO_failsAtEnd_18 (by decide) ?_
    refine g_zret (pc := 19) d_MO_failsAtEnd_19 rfl (by first | rfl | exact nar_bI _) ?_
    have ey : Y_semi T n q = (true, Y_next T n q) := by unfold Y_semi; rw [if_pos e3]
    refine ⟨Z_val T n q.1.2.2.1 w, ?_, ?_, ?_⟩
    · rw [ey]; exact ⟨VQ_tok, TW_nx hq.1⟩
    · rw [ey]; rfl
    · rw [ey]; rfl
  · skip
    have e3 : ¬ q.1.1 = 3 := fun z => c_5 (by rw [z]; rfl)
    refine g_aload_n (pc := 8) d_MO_failsAtEnd_8 rfl 0 rfl ?_
    refine g_iconst (pc := 9) (v := 1) d_MO_failsAtEnd_9 (by decide) ?_
    refine g_cV1 (pc := 10) (ci := 7) (As := [.int _]) d_MO_failsAtEnd_10 rfl mv_MO_fails st_MO_failsAtEnd_202 rfl rfl (by decide) rfl rfl (Nat.le_of_ble_eq_true rfl) k_m (cm_MO_fails hM nd hn hc hT) ?_
    refine g_zret (pc := 13) d_MO_failsAtEnd_13 rfl (by first | rfl | exact nar_bI _) ?_
    have ey : Y_semi T n q = (false, Y_fail 1 q) := by unfold Y_semi; rw [if_neg e3]
    refine ⟨w, ?_, ?_, ?_⟩
    · rw [ey]; exact ⟨hv, hq⟩
    · rw [ey]; rfl
    · rw [ey]
set_option maxRecDepth 20000 in
theorem ce_MO_failsAtNext {E : En} {h : Hp} {m st mi nu co wd n : Nat} {c0 G0 T Ti N K : Nat → Int32} {R : List (Nat × (Nat → Int32))} {cm e k at9 : Nat} {q : Ps} {w0 : Int32} (hM : MpOk h m st mi nu co wd) (nd : (m :: st :: mi :: nu :: co :: wd :: R.map Prod.fst).Nodup) (hn : n ≤ 500) (hc : c0 5 = nI n) (hT : ∀ j, j < n → Ti j = T j) (hb : BH T n e q) : CT E m_MO_failsAtNext [.ref m] (wL h ((m, (rM c0 cm e k at9 w0 q.2.2.1 q.2.2.2)) :: (st, G0) :: (mi, Ti) :: (nu, N) :: (co, K) :: (wd, wdR) :: R)) 0 0 (fun v1 h9 => ∃ z : Int32, (VQ (Y_semi T n q).2 z ∧ TW T n (Y_semi T n q).2.1) ∧ v1 = some (.int (bI (!(Y_semi T n q).1))) ∧ h9 = wL h ((m, (rQ c0 cm (Y_semi T n q).2 z)) :: (st, G0) :: (mi, Ti) :: (nu, N) :: (co, K) :: (wd, wdR) :: R)) noX := by
  refine ct_of rfl (by decide +kernel) (Nat.le_of_ble_eq_true rfl) ?_
  show G E m_MO_failsAtNext 0 [(0, .ref m)] [] (wL h ((m, (rM c0 cm e k at9 w0 q.2.2.1 q.2.2.2)) :: (st, G0) :: (mi, Ti) :: (nu, N) :: (co, K) :: (wd, wdR) :: R)) 0 0 _ noX
  obtain ⟨k_m, r_m_0, k_st, l_st, r_m_4, k_mi, l_mi, r_m_12, k_nu, l_nu, r_m_13, k_co, l_co, r_m_18, k_wd, l_wd⟩ := id hM
  refine g_aload_n (pc := 0) d_MO_failsAtNext_0 rfl 0 rfl ?_
  refine g_cV0 (pc := 1) (ci := 7) (As := []) d_MO_failsAtNext_1 rfl mv_MO_readToken st_MO_failsAtNext_199 rfl rfl (by decide) rfl rfl (Nat.le_of_ble_eq_true rfl) k_m (cm_MO_readToken hM nd hn hc hT hb.1) ?_
  rw [hb.rq]
  refine g_aload_n (pc := 4) d_MO_failsAtNext_4 rfl 0 rfl ?_
  refine g_cVx (pc := 5) (ci := 7) (As := []) d_MO_failsAtNext_5 rfl mv_MO_failsAtEnd st_MO_failsAtNext_208 rfl rfl (by decide) rfl rfl (Nat.le_of_ble_eq_true rfl) k_m (ce_MO_failsAtEnd (q := q) (w := Z_val T n e w0) hM nd hn hc hT hb.tw hb.vq) (fun z hz => ?_)
  refine g_zret (pc := 8) d_MO_failsAtNext_8 rfl (by first | rfl | exact nar_bI _) ?_
  exact ⟨z, hz, rfl, rfl⟩
