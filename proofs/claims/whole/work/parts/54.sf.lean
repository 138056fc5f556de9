/-! THE JDK: Integer.getChars, append(int), charAt -/
def dTen : List Int32 := [48, 48, 48, 48, 48, 48, 48, 48, 48, 48, 49, 49, 49, 49, 49, 49, 49, 49, 49, 49, 50, 50, 50, 50, 50, 50, 50, 50, 50, 50, 51, 51, 51, 51, 51, 51, 51, 51, 51, 51, 52, 52, 52, 52, 52, 52, 52, 52, 52, 52, 53, 53, 53, 53, 53, 53, 53, 53, 53, 53, 54, 54, 54, 54, 54, 54, 54, 54, 54, 54, 55, 55, 55, 55, 55, 55, 55, 55, 55, 55, 56, 56, 56, 56, 56, 56, 56, 56, 56, 56, 57, 57, 57, 57, 57, 57, 57, 57, 57, 57]
def dOne : List Int32 := [48, 49, 50, 51, 52, 53, 54, 55, 56, 57, 48, 49, 50, 51, 52, 53, 54, 55, 56, 57, 48, 49, 50, 51, 52, 53, 54, 55, 56, 57, 48, 49, 50, 51, 52, 53, 54, 55, 56, 57, 48, 49, 50, 51, 52, 53, 54, 55, 56, 57, 48, 49, 50, 51, 52, 53, 54, 55, 56, 57, 48, 49, 50, 51, 52, 53, 54, 55, 56, 57, 48, 49, 50, 51, 52, 53, 54, 55, 56, 57, 48, 49, 50, 51, 52, 53, 54, 55, 56, 57, 48, 49, 50, 51, 52, 53, 54, 55, 56, 57]
theorem dTen_at : ∀ j, j < 100 → dTen.getD j 0 = nI (48 + j / 10 % 10) := by decide +kernel
theorem dOne_at : ∀ j, j < 100 → dOne.getD j 0 = nI (48 + j % 10) := by decide +kernel
theorem neg_div {w : Nat} (hw : w < 2 ^ 31) : (-nI w) / 100 = -nI (w / 100) := by
  apply Int32.toInt_inj.mp
  rw [i_divI (by rw [neg_toInt hw]; omega) (by decide), neg_toInt hw, neg_toInt (by omega)]
  rw [show (100 : Int32).toInt = 100 from rfl]
  split <;> omega
theorem neg_rem {w : Nat} (hw : w < 2 ^ 31) : (-nI (w / 100)) * 100 - (-nI w) = nI (w % 100) := by
  have a1 : (-nI (w / 100) : Int32).toInt = -((w / 100 : Nat) : Int) := neg_toInt (by omega)
  have a2 : (-nI w : Int32).toInt = -(w : Int) := neg_toInt hw
  have a3 : ((-nI (w / 100)) * 100 : Int32).toInt = -((w / 100 : Nat) : Int) * 100 := by rw [i_mulI (by rw [a1, show (100 : Int32).toInt = 100 from rfl]; omega) (by rw [a1, show (100 : Int32).toInt = 100 from rfl]; omega), a1]; rfl
  apply Int32.toInt_inj.mp
  rw [i_subI (by rw [a3, a2]; omega) (by rw [a3, a2]; omega), a3, a2, nI_toInt (by omega)]
  omega
theorem nI_dn9 {q : Nat} (h : 1 ≤ q) : nI q + -1 = nI (q - 1) := by
  have e : nI (q - 1) + 1 = nI q := by rw [nI_1]; congr 1; omega
  rw [← e, Int32.add_assoc, show (1 + -1 : Int32) = 0 from by decide, Int32.add_zero]
theorem dgF_app (w : Nat) : ∀ k, dgF w (k + 2) = dgF (w / 100) k ++ [nI (48 + w / 10 % 10), nI (48 + w % 10)]
  | 0 => by simp [dgF]
  | k + 1 => by
    rw [dgF, dgF_app w k, dgF, List.cons_append]
    congr 4
    rw [Nat.div_div_eq_div_mul, show 100 * 10 ^ k = 10 ^ (k + 2) by rw [Nat.pow_add]; omega]
theorem Wr_one (T : Nat → Int32) (l : List Int32) (b : Int32) {n : Nat} (h : n = l.length) : Wr (u1 T n b) l = Wr T (l ++ [b]) := by
  subst h
  funext j
  unfold Wr
  by_cases h2 : j < l.length
  · rw [if_pos h2, if_pos (by simp; omega)]
    simp [List.getD, List.getElem?_append_left h2]
  · rw [if_neg h2, u1_at]
    by_cases h3 : j = l.length
    · subst h3
      rw [if_pos rfl, if_pos (by simp)]
      simp [List.getD]
    · rw [if_neg h3, if_neg (by simp; omega)]
theorem Wr_two (T : Nat → Int32) (l : List Int32) (a b : Int32) {n m : Nat} (h : n = l.length) (hm : m = n + 1) : Wr (u1 (u1 T m b) n a) l = Wr T (l ++ [a, b]) := by
  rw [Wr_one _ l a h, Wr_one T (l ++ [a]) b (by simp; omega), List.append_assoc]
  rfl
theorem W1 (T : Nat → Int32) (a : Int32) : u1 T 0 a = Wr T [a] := by rw [← Wr_nil (u1 T 0 a), Wr_one (n := 0) T [] a rfl]; rfl
theorem W2 (T : Nat → Int32) (a b : Int32) : u1 (u1 T 1 b) 0 a = Wr T [a, b] := by rw [W1, Wr_one (n := 1) T [a] b rfl]; rfl
theorem W3 (T : Nat → Int32) (a b c : Int32) : u1 (u1 (u1 T 2 c) 1 b) 0 a = Wr T [a, b, c] := by rw [W2, Wr_one (n := 2) T [a, b] c rfl]; rfl
theorem neg_gt {w k : Nat} (hw : w < 2 ^ 31) (hk : k < 2 ^ 31) : -nI k < -nI w ↔ w < k := by
  rw [i_lt, neg_toInt hw, neg_toInt hk]
  omega
theorem dgF_1 {w : Nat} (h : w < 10) : dgF w 1 = [nI (48 + w % 10)] := by simp [dgF]
theorem dgF_2 (w : Nat) : dgF w 2 = [nI (48 + w / 10 % 10), nI (48 + w % 10)] := by simp [dgF]
theorem nar_b9 : ∀ b, b < 128 → vp_nar .byte (nI b) = nI b := by decide +kernel
theorem nar_dg {r : Nat} : vp_nar .byte (nI (48 + r % 10)) = nI (48 + r % 10) := nar_b9 _ (by omega)
theorem nar_45 : vp_nar .byte 45 = 45 := by decide +kernel
set_option maxRecDepth 20000 in
theorem lp_IT_chars {E : En} {h : Hp} {so vb : Nat} {c : Nat → Int32} {R : List (Nat × (Nat → Int32))} {s6 : Int32} {sl : List Int32} (hS : SbOk h so vb) (nd : (so :: vb :: R.map Prod.fst).Nodup) (hsl : s6 = 0 ∧ sl = [] ∨ s6 = 1 ∧ sl = [45]) : ∀ (n w q : Nat) (T : Nat → Int32), w < 100 ^ n → w < 2 ^ 31 → q = sl.length + dgL w → q ≤ 16 → G E m_IT_getChars 22 [(2, .ref vb), (0, .int (-nI w)), (5, .int (nI q)), (6, .int s6)] [] (wL h ((so, c) :: (vb, T) :: R)) 0 0 (fun v h9 => v = some (.int 0) ∧ h9 = wL h ((so, c) :: (vb, (Wr T (sl ++ dgF w (dgL w)))) :: R)) noX := by
  obtain ⟨k_so, r_so_0, k_vb, l_vb⟩ := id hS
  have hs2 : sl.length ≤ 1 := by rcases hsl with ⟨_, rfl⟩ | ⟨_, rfl⟩ <;> decide
  intro n
  induction n with
  | zero =>
    intro w q T h1 h2 h3 h4
    have h5 := dgL_le w
    have h0 : w = 0 := by simp at h1; exact h1
    have w1 : w < 100 := by omega
    clear h0
    refine g_iload_n (pc := 22) d_IT_getChars_22 rfl 1 rfl ?_
    refine g_bipush (pc := 23) (v := (-100)) d_IT_getChars_23 (by decide) ?_
    refine g_icmp_gt (pc := 25) (tgt := 72) d_IT_getChars_25 (by decide) (fun c_25 => ?_) (fun c_25 => ?_)
    · skip
      refine g_aload_n (pc := 72) d_IT_getChars_72 rfl 0 rfl ?_
      obtain ⟨x_1, hx_1⟩ : ∃ y : Int32, y = (nI q) + (-1) := ⟨_, rfl⟩
      refine g_iinc (pc := 73) (w := 2) (v := x_1) (lv' := [(5, .int x_1), (2, .ref vb), (0, .int (-nI w)), (6, .int s6)]) d_IT_getChars_73 rfl (by rw [hx_1]; rfl) (by decide) rfl ?_
      refine g_iload (pc := 76) d_IT_getChars_76 0 rfl ?_
      have e1 : x_1 = nI (q - 1) := by
        rw [hx_1]
        exact nI_dn9 (by omega)
      refine g_top e1 ?_
      refine g_gets (pc := 78) d_IT_getChars_78 3 rfl (tg_6 170 rfl rfl) ?_
      show G E m_IT_getChars 81 _ (.ref (eS E 103) :: _) _ _ _ _ _
      refine g_iload_n (pc := 81) d_IT_getChars_81 rfl 2 rfl ?_
      refine g_ineg (pc := 82) d_IT_getChars_82 ?_
      refine g_top (y := nI w) Int32.neg_neg ?_
      refine g_tabB (pc := 83) (l := dOne) (i := 103) (w := 3) (j := w) rfl (show w < 100 by omega) (by decide) d_IT_getChars_83 ?_
      refine g_top (y := nI (48 + w % 10)) (by rw [dOne_at _ (by omega)]) ?_
      refine g_lbs1 (pc := 84) (j := (q - 1)) d_IT_getChars_84 k_vb l_vb (by first | assumption | omega) (by decide) nd ?_
      refine g_iload_n (pc := 85) d_IT_getChars_85 rfl 2 rfl ?_
      refine g_bipush (pc := 86) (v := (-9)) d_IT_getChars_86 (by decide) ?_
      refine g_icmp_ge (pc := 88) (tgt := 104) d_IT_getChars_88 (by decide) (fun c_88 => ?_) (fun c_88 => ?_)
      · skip
        have w2 : w < 10 := by
          have z : (-9 : Int32).toInt ≤ (-nI w : Int32).toInt := (i_le _ _).mp c_88
          rw [neg_toInt h2, show (-9 : Int32).toInt = -9 from rfl] at z
          omega
        have d1 : dgL w = 1 := dgL_0 w2
        refine g_iload (pc := 104) d_IT_getChars_104 3 rfl ?_
        refine g_if_eq (pc := 106) (tgt := 118) d_IT_getChars_106 (by decide) (fun c_106 => ?_) (fun c_106 => ?_)
        · skip
          have y1 : sl = [] := by rcases hsl with z | z; exact z.2; exact absurd (z.1.symm.trans c_106) (by decide)
          refine g_iload (pc := 118) d_IT_getChars_118 0 rfl ?_
          refine g_top (y := 0) (by first | (rw [e4]; rfl) | (rw [e2, show q - 2 = 0 by rw [y1] at h3; simp at h3; omega]; rfl) | (rw [e1, show q - 1 = 0 by rw [y1] at h3; simp at h3; omega]; rfl)) ?_
          refine g_iret (pc := 120) d_IT_getChars_120 rfl ?_
          refine ⟨rfl, ?_⟩
          subst y1
          simp only [List.length_cons, List.length_nil, Nat.zero_add, Nat.add_zero] at h3
          first
          | (rw [d1] at h3 ⊢; subst h3; rw [dgF_1 w2])
          | (rw [d2] at h3 ⊢; subst h3; rw [dgF_2])
          simp only [nar_dg, nar_45, List.nil_append, List.cons_append]
          first
          | exact congrArg (fun f => wL h ((so, c) :: (vb, f) :: R)) (W3 T _ _ _)
          | exact congrArg (fun f => wL h ((so, c) :: (vb, f) :: R)) (W2 T _ _)
          | exact congrArg (fun f => wL h ((so, c) :: (vb, f) :: R)) (W1 T _)
        · skip
          have y1 : sl = [45] := by rcases hsl with z | z; exact absurd z.1 c_106; exact z.2
          refine g_aload_n (pc := 109) d_IT_getChars_109 rfl 1 rfl ?_
          obtain ⟨x_2, hx_2⟩ : ∃ y : Int32, y = x_1 + (-1) := ⟨_, rfl⟩
          refine g_iinc (pc := 110) (w := 0) (v := x_2) (lv' := [(5, .int x_2), (2, .ref vb), (0, .int (-nI w)), (6, .int s6)]) d_IT_getChars_110 rfl (by rw [hx_2]; rfl) (by decide) rfl ?_
          refine g_iload (pc := 113) d_IT_getChars_113 0 rfl ?_
          have e4 : x_2 = nI 0 := by
            rw [hx_2]
            first
            | (rw [e2, nI_dn9 (by rw [y1] at h3; simp at h3; omega)]; congr 1; rw [y1] at h3; simp at h3; omega)
            | (rw [e1, nI_dn9 (by rw [y1] at h3; simp at h3; omega)]; congr 1; rw [y1] at h3; simp at h3; omega)
          refine g_top e4 ?_
          refine g_bipush (pc := 115) (v := 45) d_IT_getChars_115 (by decide) ?_
          refine g_lbs1 (pc := 117) (j := 0) d_IT_getChars_117 k_vb l_vb (by first | assumption | omega) (by decide) nd ?_
          refine g_iload (pc := 118) d_IT_getChars_118 0 rfl ?_
          refine g_top (y := 0) (by first | (rw [e4]; rfl) | (rw [e2, show q - 2 = 0 by rw [y1] at h3; simp at h3; omega]; rfl) | (rw [e1, show q - 1 = 0 by rw [y1] at h3; simp at h3; omega]; rfl)) ?_
          refine g_iret (pc := 120) d_IT_getChars_120 rfl ?_
          refine ⟨rfl, ?_⟩
          subst y1
          simp only [List.length_cons, List.length_nil, Nat.zero_add, Nat.add_zero] at h3
          first
          | (rw [d1] at h3 ⊢; subst h3; rw [dgF_1 w2])
          | (rw [d2] at h3 ⊢; subst h3; rw [dgF_2])
          simp only [nar_dg, nar_45, List.nil_append, List.cons_append]
          first
          | exact congrArg (fun f => wL h ((so, c) :: (vb, f) :: R)) (W3 T _ _ _)
          | exact congrArg (fun f => wL h ((so, c) :: (vb, f) :: R)) (W2 T _ _)
          | exact congrArg (fun f => wL h ((so, c) :: (vb, f) :: R)) (W1 T _)
      · skip
        have w2 : ¬ w < 10 := fun z => c_88 ((i_le _ _).mpr (by rw [neg_toInt h2, show (-9 : Int32).toInt = -9 from rfl]; omega))
        have d2 : dgL w = 2 := dgL_is 2 (by decide) (by decide) w (Or.inl (by omega)) (by omega)
        refine g_aload_n (pc := 91) d_IT_getChars_91 rfl 1 rfl ?_
        obtain ⟨x_3, hx_3⟩ : ∃ y : Int32, y = x_1 + (-1) := ⟨_, rfl⟩
        refine g_iinc (pc := 92) (w := 0) (v := x_3) (lv' := [(5, .int x_3), (2, .ref vb), (0, .int (-nI w)), (6, .int s6)]) d_IT_getChars_92 rfl (by rw [hx_3]; rfl) (by decide) rfl ?_
        refine g_iload (pc := 95) d_IT_getChars_95 0 rfl ?_
        have e2 : x_3 = nI (q - 2) := by
          rw [hx_3, e1]
          rw [nI_dn9 (by omega)]; congr 1
        refine g_top e2 ?_
        refine g_gets (pc := 97) d_IT_getChars_97 2 rfl (tg_6 172 rfl rfl) ?_
        show G E m_IT_getChars 100 _ (.ref (eS E 102) :: _) _ _ _ _ _
        refine g_iload_n (pc := 100) d_IT_getChars_100 rfl 2 rfl ?_
        refine g_ineg (pc := 101) d_IT_getChars_101 ?_
        refine g_top (y := nI w) Int32.neg_neg ?_
        refine g_tabB (pc := 102) (l := dTen) (i := 102) (w := 2) (j := w) rfl (show w < 100 by omega) (by decide) d_IT_getChars_102 ?_
        refine g_top (y := nI (48 + w / 10 % 10)) (by rw [dTen_at _ (by omega)]) ?_
        refine g_lbs1 (pc := 103) (j := (q - 2)) d_IT_getChars_103 k_vb l_vb (by first | assumption | omega) (by decide) nd ?_
        refine g_iload (pc := 104) d_IT_getChars_104 3 rfl ?_
        refine g_if_eq (pc := 106) (tgt := 118) d_IT_getChars_106 (by decide) (fun c_106 => ?_) (fun c_106 => ?_)
        · skip
          have y1 : sl = [] := by rcases hsl with z | z; exact z.2; exact absurd (z.1.symm.trans c_106) (by decide)
          refine g_iload (pc := 118) d_IT_getChars_118 0 rfl ?_
          refine g_top (y := 0) (by first | (rw [e4]; rfl) | (rw [e2, show q - 2 = 0 by rw [y1] at h3; simp at h3; omega]; rfl) | (rw [e1, show q - 1 = 0 by rw [y1] at h3; simp at h3; omega]; rfl)) ?_
          refine g_iret (pc := 120) d_IT_getChars_120 rfl ?_
          refine ⟨rfl, ?_⟩
          subst y1
          simp only [List.length_cons, List.length_nil, Nat.zero_add, Nat.add_zero] at h3
          first
          | (rw [d1] at h3 ⊢; subst h3; rw [dgF_1 w2])
          | (rw [d2] at h3 ⊢; subst h3; rw [dgF_2])
          simp only [nar_dg, nar_45, List.nil_append, List.cons_append]
          first
          | exact congrArg (fun f => wL h ((so, c) :: (vb, f) :: R)) (W3 T _ _ _)
          | exact congrArg (fun f => wL h ((so, c) :: (vb, f) :: R)) (W2 T _ _)
          | exact congrArg (fun f => wL h ((so, c) :: (vb, f) :: R)) (W1 T _)
        · skip
          have y1 : sl = [45] := by rcases hsl with z | z; exact absurd z.1 c_106; exact z.2
          refine g_aload_n (pc := 109) d_IT_getChars_109 rfl 1 rfl ?_
          obtain ⟨x_4, hx_4⟩ : ∃ y : Int32, y = x_3 + (-1) := ⟨_, rfl⟩
          refine g_iinc (pc := 110) (w := 0) (v := x_4) (lv' := [(5, .int x_4), (2, .ref vb), (0, .int (-nI w)), (6, .int s6)]) d_IT_getChars_110 rfl (by rw [hx_4]; rfl) (by decide) rfl ?_
          refine g_iload (pc := 113) d_IT_getChars_113 0 rfl ?_
          have e4 : x_4 = nI 0 := by
            rw [hx_4]
            first
            | (rw [e2, nI_dn9 (by rw [y1] at h3; simp at h3; omega)]; congr 1; rw [y1] at h3; simp at h3; omega)
            | (rw [e1, nI_dn9 (by rw [y1] at h3; simp at h3; omega)]; congr 1; rw [y1] at h3; simp at h3; omega)
          refine g_top e4 ?_
          refine g_bipush (pc := 115) (v := 45) d_IT_getChars_115 (by decide) ?_
          refine g_lbs1 (pc := 117) (j := 0) d_IT_getChars_117 k_vb l_vb (by first | assumption | omega) (by decide) nd ?_
          refine g_iload (pc := 118) d_IT_getChars_118 0 rfl ?_
          refine g_top (y := 0) (by first | (rw [e4]; rfl) | (rw [e2, show q - 2 = 0 by rw [y1] at h3; simp at h3; omega]; rfl) | (rw [e1, show q - 1 = 0 by rw [y1] at h3; simp at h3; omega]; rfl)) ?_
          refine g_iret (pc := 120) d_IT_getChars_120 rfl ?_
          refine ⟨rfl, ?_⟩
          subst y1
          simp only [List.length_cons, List.length_nil, Nat.zero_add, Nat.add_zero] at h3
          first
          | (rw [d1] at h3 ⊢; subst h3; rw [dgF_1 w2])
          | (rw [d2] at h3 ⊢; subst h3; rw [dgF_2])
          simp only [nar_dg, nar_45, List.nil_append, List.cons_append]
          first
          | exact congrArg (fun f => wL h ((so, c) :: (vb, f) :: R)) (W3 T _ _ _)
          | exact congrArg (fun f => wL h ((so, c) :: (vb, f) :: R)) (W2 T _ _)
          | exact congrArg (fun f => wL h ((so, c) :: (vb, f) :: R)) (W1 T _)
    · exact absurd ((neg_gt (k := 100) h2 (by decide)).mpr w1) c_25
  | succ n ih =>
    intro w q T h1 h2 h3 h4
    have h5 := dgL_le w
    refine g_iload_n (pc := 22) d_IT_getChars_22 rfl 1 rfl ?_
    refine g_bipush (pc := 23) (v := (-100)) d_IT_getChars_23 (by decide) ?_
    refine g_icmp_gt (pc := 25) (tgt := 72) d_IT_getChars_25 (by decide) (fun c_25 => ?_) (fun c_25 => ?_)
    · skip
      have w1 : w < 100 := (neg_gt h2 (by decide)).mp c_25
      refine g_aload_n (pc := 72) d_IT_getChars_72 rfl 0 rfl ?_
      obtain ⟨x_1, hx_1⟩ : ∃ y : Int32, y = (nI q) + (-1) := ⟨_, rfl⟩
      refine g_iinc (pc := 73) (w := 2) (v := x_1) (lv' := [(5, .int x_1), (2, .ref vb), (0, .int (-nI w)), (6, .int s6)]) d_IT_getChars_73 rfl (by rw [hx_1]; rfl) (by decide) rfl ?_
      refine g_iload (pc := 76) d_IT_getChars_76 0 rfl ?_
      have e1 : x_1 = nI (q - 1) := by
        rw [hx_1]
        exact nI_dn9 (by omega)
      refine g_top e1 ?_
      refine g_gets (pc := 78) d_IT_getChars_78 3 rfl (tg_6 170 rfl rfl) ?_
      show G E m_IT_getChars 81 _ (.ref (eS E 103) :: _) _ _ _ _ _
      refine g_iload_n (pc := 81) d_IT_getChars_81 rfl 2 rfl ?_
      refine g_ineg (pc := 82) d_IT_getChars_82 ?_
      refine g_top (y := nI w) Int32.neg_neg ?_
      refine g_tabB (pc := 83) (l := dOne) (i := 103) (w := 3) (j := w) rfl (show w < 100 by omega) (by decide) d_IT_getChars_83 ?_
      refine g_top (y := nI (48 + w % 10)) (by rw [dOne_at _ (by omega)]) ?_
      refine g_lbs1 (pc := 84) (j := (q - 1)) d_IT_getChars_84 k_vb l_vb (by first | assumption | omega) (by decide) nd ?_
      refine g_iload_n (pc := 85) d_IT_getChars_85 rfl 2 rfl ?_
      refine g_bipush (pc := 86) (v := (-9)) d_IT_getChars_86 (by decide) ?_
      refine g_icmp_ge (pc := 88) (tgt := 104) d_IT_getChars_88 (by decide) (fun c_88 => ?_) (fun c_88 => ?_)
      · skip
        have w2 : w < 10 := by
          have z : (-9 : Int32).toInt ≤ (-nI w : Int32).toInt := (i_le _ _).mp c_88
          rw [neg_toInt h2, show (-9 : Int32).toInt = -9 from rfl] at z
          omega
        have d1 : dgL w = 1 := dgL_0 w2
        refine g_iload (pc := 104) d_IT_getChars_104 3 rfl ?_
        refine g_if_eq (pc := 106) (tgt := 118) d_IT_getChars_106 (by decide) (fun c_106 => ?_) (fun c_106 => ?_)
        · skip
          have y1 : sl = [] := by rcases hsl with z | z; exact z.2; exact absurd (z.1.symm.trans c_106) (by decide)
          refine g_iload (pc := 118) d_IT_getChars_118 0 rfl ?_
          refine g_top (y := 0) (by first | (rw [e4]; rfl) | (rw [e2, show q - 2 = 0 by rw [y1] at h3; simp at h3; omega]; rfl) | (rw [e1, show q - 1 = 0 by rw [y1] at h3; simp at h3; omega]; rfl)) ?_
          refine g_iret (pc := 120) d_IT_getChars_120 rfl ?_
          refine ⟨rfl, ?_⟩
          subst y1
          simp only [List.length_cons, List.length_nil, Nat.zero_add, Nat.add_zero] at h3
          first
          | (rw [d1] at h3 ⊢; subst h3; rw [dgF_1 w2])
          | (rw [d2] at h3 ⊢; subst h3; rw [dgF_2])
          simp only [nar_dg, nar_45, List.nil_append, List.cons_append]
          first
          | exact congrArg (fun f => wL h ((so, c) :: (vb, f) :: R)) (W3 T _ _ _)
          | exact congrArg (fun f => wL h ((so, c) :: (vb, f) :: R)) (W2 T _ _)
          | exact congrArg (fun f => wL h ((so, c) :: (vb, f) :: R)) (W1 T _)
        · skip
          have y1 : sl = [45] := by rcases hsl with z | z; exact absurd z.1 c_106; exact z.2
          refine g_aload_n (pc := 109) d_IT_getChars_109 rfl 1 rfl ?_
          obtain ⟨x_2, hx_2⟩ : ∃ y : Int32, y = x_1 + (-1) := ⟨_, rfl⟩
          refine g_iinc (pc := 110) (w := 0) (v := x_2) (lv' := [(5, .int x_2), (2, .ref vb), (0, .int (-nI w)), (6, .int s6)]) d_IT_getChars_110 rfl (by rw [hx_2]; rfl) (by decide) rfl ?_
          refine g_iload (pc := 113) d_IT_getChars_113 0 rfl ?_
          have e4 : x_2 = nI 0 := by
            rw [hx_2]
            first
            | (rw [e2, nI_dn9 (by rw [y1] at h3; simp at h3; omega)]; congr 1; rw [y1] at h3; simp at h3; omega)
            | (rw [e1, nI_dn9 (by rw [y1] at h3; simp at h3; omega)]; congr 1; rw [y1] at h3; simp at h3; omega)
          refine g_top e4 ?_
          refine g_bipush (pc := 115) (v := 45) d_IT_getChars_115 (by decide) ?_
          refine g_lbs1 (pc := 117) (j := 0) d_IT_getChars_117 k_vb l_vb (by first | assumption | omega) (by decide) nd ?_
          refine g_iload (pc := 118) d_IT_getChars_118 0 rfl ?_
          refine g_top (y := 0) (by first | (rw [e4]; rfl) | (rw [e2, show q - 2 = 0 by rw [y1] at h3; simp at h3; omega]; rfl) | (rw [e1, show q - 1 = 0 by rw [y1] at h3; simp at h3; omega]; rfl)) ?_
          refine g_iret (pc := 120) d_IT_getChars_120 rfl ?_
          refine ⟨rfl, ?_⟩
          subst y1
          simp only [List.length_cons, List.length_nil, Nat.zero_add, Nat.add_zero] at h3
          first
          | (rw [d1] at h3 ⊢; subst h3; rw [dgF_1 w2])
          | (rw [d2] at h3 ⊢; subst h3; rw [dgF_2])
          simp only [nar_dg, nar_45, List.nil_append, List.cons_append]
          first
          | exact congrArg (fun f => wL h ((so, c) :: (vb, f) :: R)) (W3 T _ _ _)
          | exact congrArg (fun f => wL h ((so, c) :: (vb, f) :: R)) (W2 T _ _)
          | exact congrArg (fun f => wL h ((so, c) :: (vb, f) :: R)) (W1 T _)
      · skip
        have w2 : ¬ w < 10 := fun z => c_88 ((i_le _ _).mpr (by rw [neg_toInt h2, show (-9 : Int32).toInt = -9 from rfl]; omega))
        have d2 : dgL w = 2 := dgL_is 2 (by decide) (by decide) w (Or.inl (by omega)) (by omega)
        refine g_aload_n (pc := 91) d_IT_getChars_91 rfl 1 rfl ?_
        obtain ⟨x_3, hx_3⟩ : ∃ y : Int32, y = x_1 + (-1) := ⟨_, rfl⟩
        refine g_iinc (pc := 92) (w := 0) (v := x_3) (lv' := [(5, .int x_3), (2, .ref vb), (0, .int (-nI w)), (6, .int s6)]) d_IT_getChars_92 rfl (by rw [hx_3]; rfl) (by decide) rfl ?_
        refine g_iload (pc := 95) d_IT_getChars_95 0 rfl ?_
        have e2 : x_3 = nI (q - 2) := by
          rw [hx_3, e1]
          rw [nI_dn9 (by omega)]; congr 1
        refine g_top e2 ?_
        refine g_gets (pc := 97) d_IT_getChars_97 2 rfl (tg_6 172 rfl rfl) ?_
        show G E m_IT_getChars 100 _ (.ref (eS E 102) :: _) _ _ _ _ _
        refine g_iload_n (pc := 100) d_IT_getChars_100 rfl 2 rfl ?_
        refine g_ineg (pc := 101) d_IT_getChars_101 ?_
        refine g_top (y := nI w) Int32.neg_neg ?_
        refine g_tabB (pc := 102) (l := dTen) (i := 102) (w := 2) (j := w) rfl (show w < 100 by omega) (by decide) d_IT_getChars_102 ?_
        refine g_top (y := nI (48 + w / 10 % 10)) (by rw [dTen_at _ (by omega)]) ?_
        refine g_lbs1 (pc := 103) (j := (q - 2)) d_IT_getChars_103 k_vb l_vb (by first | assumption | omega) (by decide) nd ?_
        refine g_iload (pc := 104) d_IT_getChars_104 3 rfl ?_
        refine g_if_eq (pc := 106) (tgt := 118) d_IT_getChars_106 (by decide) (fun c_106 => ?_) (fun c_106 => ?_)
        · skip
          have y1 : sl = [] := by rcases hsl with z | z; exact z.2; exact absurd (z.1.symm.trans c_106) (by decide)
          refine g_iload (pc := 118) d_IT_getChars_118 0 rfl ?_
          refine g_top (y := 0) (by first | (rw [e4]; rfl) | (rw [e2, show q - 2 = 0 by rw [y1] at h3; simp at h3; omega]; rfl) | (rw [e1, show q - 1 = 0 by rw [y1] at h3; simp at h3; omega]; rfl)) ?_
          refine g_iret (pc := 120) d_IT_getChars_120 rfl ?_
          refine ⟨rfl, ?_⟩
          subst y1
          simp only [List.length_cons, List.length_nil, Nat.zero_add, Nat.add_zero] at h3
          first
          | (rw [d1] at h3 ⊢; subst h3; rw [dgF_1 w2])
          | (rw [d2] at h3 ⊢; subst h3; rw [dgF_2])
          simp only [nar_dg, nar_45, List.nil_append, List.cons_append]
          first
          | exact congrArg (fun f => wL h ((so, c) :: (vb, f) :: R)) (W3 T _ _ _)
          | exact congrArg (fun f => wL h ((so, c) :: (vb, f) :: R)) (W2 T _ _)
          | exact congrArg (fun f => wL h ((so, c) :: (vb, f) :: R)) (W1 T _)
        · skip
          have y1 : sl = [45] := by rcases hsl with z | z; exact absurd z.1 c_106; exact z.2
          refine g_aload_n (pc := 109) d_IT_getChars_109 rfl 1 rfl ?_
          obtain ⟨x_4, hx_4⟩ : ∃ y : Int32, y = x_3 + (-1) := ⟨_, rfl⟩
          refine g_iinc (pc := 110) (w := 0) (v := x_4) (lv' := [(5, .int x_4), (2, .ref vb), (0, .int (-nI w)), (6, .int s6)]) d_IT_getChars_110 rfl (by rw [hx_4]; rfl) (by decide) rfl ?_
          refine g_iload (pc := 113) d_IT_getChars_113 0 rfl ?_
          have e4 : x_4 = nI 0 := by
            rw [hx_4]
            first
            | (rw [e2, nI_dn9 (by rw [y1] at h3; simp at h3; omega)]; congr 1; rw [y1] at h3; simp at h3; omega)
            | (rw [e1, nI_dn9 (by rw [y1] at h3; simp at h3; omega)]; congr 1; rw [y1] at h3; simp at h3; omega)
          refine g_top e4 ?_
          refine g_bipush (pc := 115) (v := 45) d_IT_getChars_115 (by decide) ?_
          refine g_lbs1 (pc := 117) (j := 0) d_IT_getChars_117 k_vb l_vb (by first | assumption | omega) (by decide) nd ?_
          refine g_iload (pc := 118) d_IT_getChars_118 0 rfl ?_
          refine g_top (y := 0) (by first | (rw [e4]; rfl) | (rw [e2, show q - 2 = 0 by rw [y1] at h3; simp at h3; omega]; rfl) | (rw [e1, show q - 1 = 0 by rw [y1] at h3; simp at h3; omega]; rfl)) ?_
          refine g_iret (pc := 120) d_IT_getChars_120 rfl ?_
          refine ⟨rfl, ?_⟩
          subst y1
          simp only [List.length_cons, List.length_nil, Nat.zero_add, Nat.add_zero] at h3
          first
          | (rw [d1] at h3 ⊢; subst h3; rw [dgF_1 w2])
          | (rw [d2] at h3 ⊢; subst h3; rw [dgF_2])
          simp only [nar_dg, nar_45, List.nil_append, List.cons_append]
          first
          | exact congrArg (fun f => wL h ((so, c) :: (vb, f) :: R)) (W3 T _ _ _)
          | exact congrArg (fun f => wL h ((so, c) :: (vb, f) :: R)) (W2 T _ _)
          | exact congrArg (fun f => wL h ((so, c) :: (vb, f) :: R)) (W1 T _)
    · skip
      have w1 : ¬ w < 100 := fun z => c_25 ((neg_gt (k := 100) h2 (by decide)).mpr z)
      have h6 := dgL_100 (by omega) h2
      have h7 := dgL_le (w / 100)
      refine g_iload_n (pc := 28) d_IT_getChars_28 rfl 1 rfl ?_
      refine g_bipush (pc := 29) (v := 100) d_IT_getChars_29 (by decide) ?_
      refine g_idiv (pc := 31) d_IT_getChars_31 (by decide) ?_
      refine g_top (neg_div h2) ?_
      refine g_istore_n (pc := 32) (lv' := [(3, .int (-nI (w / 100))), (2, .ref vb), (0, .int (-nI w)), (5, .int (nI q)), (6, .int s6)]) d_IT_getChars_32 rfl (by decide) rfl ?_
      refine g_iload_n (pc := 33) d_IT_getChars_33 rfl 0 rfl ?_
      refine g_bipush (pc := 34) (v := 100) d_IT_getChars_34 (by decide) ?_
      refine g_imul (pc := 36) d_IT_getChars_36 ?_
      refine g_iload_n (pc := 37) d_IT_getChars_37 rfl 2 rfl ?_
      refine g_isub (pc := 38) d_IT_getChars_38 ?_
      refine g_top (neg_rem h2) ?_
      refine g_istore (pc := 39) (lv' := [(4, .int (nI (w % 100))), (3, .int (-nI (w / 100))), (2, .ref vb), (0, .int (-nI w)), (5, .int (nI q)), (6, .int s6)]) d_IT_getChars_39 (by decide) rfl ?_
      refine g_iload_n (pc := 41) d_IT_getChars_41 rfl 1 rfl ?_
      refine g_istore_n (pc := 42) (lv' := [(0, .int (-nI (w / 100))), (4, .int (nI (w % 100))), (3, .int (-nI (w / 100))), (2, .ref vb), (5, .int (nI q)), (6, .int s6)]) d_IT_getChars_42 rfl (by decide) rfl ?_
      refine g_aload_n (pc := 43) d_IT_getChars_43 rfl 3 rfl ?_
      obtain ⟨x_5, hx_5⟩ : ∃ y : Int32, y = (nI q) + (-1) := ⟨_, rfl⟩
      refine g_iinc (pc := 44) (w := 4) (v := x_5) (lv' := [(5, .int x_5), (0, .int (-nI (w / 100))), (4, .int (nI (w % 100))), (3, .int (-nI (w / 100))), (2, .ref vb), (6, .int s6)]) d_IT_getChars_44 rfl (by rw [hx_5]; rfl) (by decide) rfl ?_
      refine g_iload (pc := 47) d_IT_getChars_47 0 rfl ?_
      have e1 : x_5 = nI (q - 1) := by
        rw [hx_5]
        exact nI_dn9 (by omega)
      refine g_top e1 ?_
      refine g_gets (pc := 49) d_IT_getChars_49 3 rfl (tg_6 170 rfl rfl) ?_
      show G E m_IT_getChars 52 _ (.ref (eS E 103) :: _) _ _ _ _ _
      refine g_iload (pc := 52) d_IT_getChars_52 2 rfl ?_
      refine g_tabB (pc := 54) (l := dOne) (i := 103) (w := 3) (j := (w % 100)) rfl (show (w % 100) < 100 by omega) (by decide) d_IT_getChars_54 ?_
      refine g_top (y := nI (48 + w % 10)) (by rw [dOne_at _ (by omega)]; congr 2; omega) ?_
      refine g_lbs1 (pc := 55) (j := (q - 1)) d_IT_getChars_55 k_vb l_vb (by first | assumption | omega) (by decide) nd ?_
      refine g_aload_n (pc := 56) d_IT_getChars_56 rfl 4 rfl ?_
      obtain ⟨x_6, hx_6⟩ : ∃ y : Int32, y = x_5 + (-1) := ⟨_, rfl⟩
      refine g_iinc (pc := 57) (w := 0) (v := x_6) (lv' := [(5, .int x_6), (0, .int (-nI (w / 100))), (4, .int (nI (w % 100))), (3, .int (-nI (w / 100))), (2, .ref vb), (6, .int s6)]) d_IT_getChars_57 rfl (by rw [hx_6]; rfl) (by decide) rfl ?_
      refine g_iload (pc := 60) d_IT_getChars_60 0 rfl ?_
      have e2 : x_6 = nI (q - 2) := by
        rw [hx_6, e1]
        rw [nI_dn9 (by omega)]; congr 1
      refine g_top e2 ?_
      refine g_gets (pc := 62) d_IT_getChars_62 2 rfl (tg_6 172 rfl rfl) ?_
      show G E m_IT_getChars 65 _ (.ref (eS E 102) :: _) _ _ _ _ _
      refine g_iload (pc := 65) d_IT_getChars_65 2 rfl ?_
      refine g_tabB (pc := 67) (l := dTen) (i := 102) (w := 2) (j := (w % 100)) rfl (show (w % 100) < 100 by omega) (by decide) d_IT_getChars_67 ?_
      refine g_top (y := nI (48 + w / 10 % 10)) (by rw [dTen_at _ (by omega)]; congr 2; omega) ?_
      refine g_lbs1 (pc := 68) (j := (q - 2)) d_IT_getChars_68 k_vb l_vb (by first | assumption | omega) (by decide) nd ?_
      refine g_goto (pc := 69) (tgt := 22) d_IT_getChars_69 (by decide) ?_
      rw [e2]
      refine g_perm [4, 1, 0, 5] rfl ?_
      have k := ih (w / 100) (q - 2) (u1 (u1 T (q - 1) (nI (48 + w % 10))) (q - 2) (nI (48 + w / 10 % 10))) (by rw [Nat.pow_succ] at h1; omega) (by omega) (by omega) (by omega)
      rw [Wr_two _ _ _ _ (by rw [List.length_append, dgF_len]; omega) (by omega), List.append_assoc, ← dgF_app, ← h6] at k
      simp only [nar_dg]
      exact k
set_option maxRecDepth 20000 in
theorem cz_IT_getChars {E : En} {h : Hp} {so vb : Nat} {c T : Nat → Int32} {R : List (Nat × (Nat → Int32))} {p : Int32} (hS : SbOk h so vb) (nd : (so :: vb :: R.map Prod.fst).Nodup) (hp : -2147483648 < p.toInt) : CR E m_IT_getChars [.int p, .int (nI ((if p < 0 then [(45 : Int32)] else []).length + dgL p.toInt.natAbs)), .ref vb] (wL h ((so, c) :: (vb, T) :: R)) (some (.int 0)) (wL h ((so, c) :: (vb, (Wr T ((if p < 0 then [(45 : Int32)] else []) ++ dgF p.toInt.natAbs (dgL p.toInt.natAbs)))) :: R)) := by
  refine ct_of rfl (by decide +kernel) (Nat.le_of_ble_eq_true rfl) ?_
  show G E m_IT_getChars 0 [(0, .int p), (1, .int (nI ((if p < 0 then [(45 : Int32)] else []).length + dgL p.toInt.natAbs))), (2, .ref vb)] [] (wL h ((so, c) :: (vb, T) :: R)) 0 0 _ noX
  have hb : p.toInt < 2147483648 := Int32.toInt_lt p
  have hw : p.toInt.natAbs < 2 ^ 31 := by omega
  have hd := dgL_le p.toInt.natAbs
  have ha := neg_abs hp
  refine g_iload_n (pc := 0) d_IT_getChars_0 rfl 1 rfl ?_
  refine g_istore (pc := 1) (lv' := [(5, .int (nI ((if p < 0 then [(45 : Int32)] else []).length + dgL p.toInt.natAbs))), (0, .int p), (1, .int (nI ((if p < 0 then [(45 : Int32)] else []).length + dgL p.toInt.natAbs))), (2, .ref vb)]) d_IT_getChars_1 (by decide) rfl ?_
  refine g_iload_n (pc := 3) d_IT_getChars_3 rfl 1 rfl ?_
  refine g_if_ge (pc := 4) (tgt := 11) d_IT_getChars_4 (by decide) (fun c_4 => ?_) (fun c_4 => ?_)
  · skip
    have n1 : ¬ p < 0 := Int32.not_lt.mpr c_4
    refine g_iconst (pc := 11) (v := 0) d_IT_getChars_11 (by decide) ?_
    refine g_istore (pc := 12) (lv' := [(6, .int 0), (5, .int (nI ((if p < 0 then [(45 : Int32)] else []).length + dgL p.toInt.natAbs))), (0, .int p), (1, .int (nI ((if p < 0 then [(45 : Int32)] else []).length + dgL p.toInt.natAbs))), (2, .ref vb)]) d_IT_getChars_12 (by decide) rfl ?_
    refine g_iload (pc := 14) d_IT_getChars_14 0 rfl ?_
    refine g_if_ne (pc := 16) (tgt := 22) d_IT_getChars_16 (by decide) (fun c_16 => ?_) (fun c_16 => ?_)
    · exact (c_16 (by decide)).elim
    · skip
      refine g_iload_n (pc := 19) d_IT_getChars_19 rfl 2 rfl ?_
      refine g_ineg (pc := 20) d_IT_getChars_20 ?_
      refine g_top (y := -nI p.toInt.natAbs) (by rw [if_neg n1] at ha; exact ha) ?_
      refine g_istore_n (pc := 21) (lv' := [(0, .int (-nI p.toInt.natAbs)), (6, .int 0), (5, .int (nI ((if p < 0 then [(45 : Int32)] else []).length + dgL p.toInt.natAbs))), (1, .int (nI ((if p < 0 then [(45 : Int32)] else []).length + dgL p.toInt.natAbs))), (2, .ref vb)]) d_IT_getChars_21 rfl (by decide) rfl ?_
      have k := lp_IT_chars (E := E) (R := R) (c := c) hS nd (Or.inl ⟨rfl, rfl⟩) 5 p.toInt.natAbs _ T (by omega) hw rfl (by simp; omega)
      simp only [if_neg n1]
      refine g_perm [4, 0, 2, 1] rfl ?_
      exact k
  · skip
    have n1 : p < 0 := Int32.not_le.mp c_4
    refine g_iconst (pc := 7) (v := 1) d_IT_getChars_7 (by decide) ?_
    refine g_goto (pc := 8) (tgt := 12) d_IT_getChars_8 (by decide) ?_
    refine g_istore (pc := 12) (lv' := [(6, .int 1), (5, .int (nI ((if p < 0 then [(45 : Int32)] else []).length + dgL p.toInt.natAbs))), (0, .int p), (1, .int (nI ((if p < 0 then [(45 : Int32)] else []).length + dgL p.toInt.natAbs))), (2, .ref vb)]) d_IT_getChars_12 (by decide) rfl ?_
    refine g_iload (pc := 14) d_IT_getChars_14 0 rfl ?_
    refine g_if_ne (pc := 16) (tgt := 22) d_IT_getChars_16 (by decide) (fun c_16 => ?_) (fun c_16 => ?_)
    · skip
      rw [if_pos n1] at ha
      have k := lp_IT_chars (E := E) (R := R) (c := c) hS nd (Or.inr ⟨rfl, rfl⟩) 5 p.toInt.natAbs _ T (by omega) hw rfl (by simp; omega)
      rw [← ha] at k
      simp only [if_pos n1]
      refine g_perm [4, 2, 1, 0] rfl ?_
      exact k
    · exact absurd c_16 (by decide)
