/-! THE JDK: append(String), append(int), toString -/
theorem va_cpy_lt {f g : Nat → Int32} {m j : Nat} (hj : j < m) : va_cpy f g 0 0 m j = f j := by
  unfold va_cpy
  rw [if_pos ⟨Nat.zero_le _, by omega⟩]
  congr 1
  omega
theorem va_cpy_ge {f g : Nat → Int32} {d m j : Nat} (hj : ¬ (d ≤ j ∧ j < d + m)) : va_cpy f g 0 d m j = g j := by
  unfold va_cpy
  rw [if_neg hj]
theorem va_cpy_in {f g : Nat → Int32} {d m j : Nat} (h1 : d ≤ j) (h2 : j < d + m) : va_cpy f g 0 d m j = f (j - d) := by
  unfold va_cpy
  rw [if_pos ⟨h1, h2⟩, Nat.zero_add]
theorem Ext.sA {h h1 : Hp} {a : Nat} {f : Nat → Int32} (e : Ext h h1) (ha : hK h a = 0) : Ext h (sA h1 a f) := fun q hq => by
  have n : q ≠ a := fun z => hq (by rw [z]; exact ha)
  obtain ⟨e1, e2, e3, e4, e5⟩ := e q hq
  exact ⟨(hI_sA_ne n).trans e1, e2, e3, e4, e5⟩
theorem Ext.sI {h h1 : Hp} {a k : Nat} {v : Int32} (e : Ext h h1) (ha : hK h a = 0) : Ext h (sI h1 a k v) := by
  rw [sI_sA]; exact e.sA ha
theorem SbY.ens {E : En} {h0 h : Hp} {so q0 q : Nat} {l : List Int32} (Y : SbY h0 h so l q0) (hq : l.length ≤ q) (hq3 : q ≤ 300) : CT E m_AS_ensure [.ref so, .int (nI q)] h 1 700 (fun v h1 => v = none ∧ SbY h0 h1 so l q) noX := by
  obtain ⟨y1, y2, vb, m, T, y3, y4, y5, y6, y7, y8, y9, y10⟩ := Y
  refine (cq_AS_ensure y4 y7 y8 hq3 y9).mono (fun v h1 p => ?_) (fun _ _ z => z)
  obtain ⟨rfl, p⟩ := p
  refine ⟨rfl, ?_⟩
  rcases p with ⟨p1, rfl⟩ | ⟨p1, b, hb, rfl⟩
  · exact ⟨y1, y2, vb, m, T, y3, y4, y5, p1, y7, y8, y9, y10⟩
  · obtain ⟨s1, s2, s3, s4, s5, s6, s7⟩ := y4
    have hb0 : hK h0 b = 0 := y1.fresh hb
    have nb : so ≠ b := fun z => by rw [z] at s1; omega
    have hn := ncp_b p1
    refine ⟨((y1.new hb).sA hb0).sR y2, y2, b, ncp q m, va_cpy T (fun _ => 0) 0 0 m, hb0, ⟨?_, ?_, ?_, ?_, ?_, ?_, ?_⟩, by omega, hn.1, by omega, by omega, fun j hj => ?_, fun j hj => ?_⟩
    · show hK (hNew h b 21 (ncp q m)) so = 9
      rw [hK_new, if_neg nb]; exact s1
    · rw [hR_sR, if_pos ⟨rfl, rfl⟩]
    · show hI (sA (hNew h b 21 (ncp q m)) b _) so 1 = 0
      rw [hI_sA_ne nb, hI_new, if_neg nb]; exact s3
    · show hI (sA (hNew h b 21 (ncp q m)) b _) so 2 = _
      rw [hI_sA_ne nb, hI_new, if_neg nb]; exact s4
    · show hK (hNew h b 21 (ncp q m)) b = 21
      rw [hK_new, if_pos rfl]
    · show hL (hNew h b 21 (ncp q m)) b = _
      rw [hL_new, if_pos rfl]
    · show hI (sA (hNew h b 21 (ncp q m)) b _) b = _
      rw [hI_sA_same]
    · by_cases c : j < m
      · rw [va_cpy_lt c]; exact y9 j c
      · rw [va_cpy_ge (by omega)]; exact ⟨0, by decide, rfl⟩
    · rw [va_cpy_lt (by omega)]; exact y10 j hj
/-- letters written behind the text -/
theorem SbY.put {h0 h : Hp} {so q : Nat} {l s : List Int32} {vb m : Nat} {T f : Nat → Int32} (y1 : Ext h0 h) (y2 : hK h0 so = 0) (y3 : hK h0 vb = 0) (y4 : SbS h so vb l.length m T) (y6 : q ≤ m) (y7 : 0 < m) (y8 : m ≤ 700) (y9 : Asc m T) (y10 : ∀ j, j < l.length → T j = l.getD j 0) (hq : q = l.length + s.length) (ha : ∀ j, j < s.length → ∃ b, b < 128 ∧ s.getD j 0 = nI b) (f1 : ∀ j, j < l.length → f j = T j) (f2 : ∀ j, j < s.length → f (l.length + j) = s.getD j 0) (f3 : ∀ j, l.length + s.length ≤ j → f j = T j) : SbY h0 (sI (sA h vb f) so 2 (nI (l.length + s.length))) so (l ++ s) (l ++ s).length := by
  obtain ⟨s1, s2, s3, s4, s5, s6, s7⟩ := y4
  have nb : so ≠ vb := fun z => by rw [z] at s1; omega
  have el : (l ++ s).length = l.length + s.length := List.length_append
  refine ⟨(y1.sA y3).sI y2, y2, vb, m, f, y3, ⟨s1, s2, ?_, ?_, s5, s6, ?_⟩, by omega, by omega, y7, y8, fun j hj => ?_, fun j hj => ?_⟩
  · rw [hI_sI, if_neg (fun z => absurd z.2 (by decide)), hI_sA_ne nb]; exact s3
  · rw [hI_sI, if_pos ⟨rfl, rfl⟩, el]
  · funext j
    rw [hI_sI, if_neg (fun z => nb z.1.symm), hI_sA_same]
  · by_cases c : j < l.length
    · rw [f1 j c]; exact y9 j hj
    · by_cases c2 : j < l.length + s.length
      · have e := f2 (j - l.length) (by omega)
        rw [show l.length + (j - l.length) = j by omega] at e
        rw [e]
        exact ha _ (by omega)
      · rw [f3 j (by omega)]; exact y9 j hj
  · rw [el] at hj
    by_cases c : j < l.length
    · rw [f1 j c, y10 j c, List.getD_eq_getElem?_getD, List.getD_eq_getElem?_getD, List.getElem?_append_left c]
    · have e := f2 (j - l.length) (by omega)
      rw [show l.length + (j - l.length) = j by omega] at e
      rw [e, List.getD_eq_getElem?_getD, List.getD_eq_getElem?_getD, List.getElem?_append_right (by omega)]
theorem X_put_app (T : Nat → Int32) (o k : Nat) (l : List Int32) (a b : Int32) (hl : l.length = k) : X_put (u1 (u1 T (o + k + 1) b) (o + k) a) o l k = X_put T o (l ++ [a, b]) (k + 2) := by
  subst hl
  funext j
  unfold X_put
  by_cases c : o ≤ j ∧ j < o + l.length
  · rw [if_pos c, if_pos (by omega), List.getD_eq_getElem?_getD, List.getD_eq_getElem?_getD, List.getElem?_append_left (by omega)]
  · rw [if_neg c]
    by_cases c1 : j = o + l.length
    · subst c1
      rw [u1_same, if_pos (by omega), List.getD_eq_getElem?_getD, List.getElem?_append_right (by omega)]
      simp
    · rw [u1_ne c1]
      by_cases c2 : j = o + l.length + 1
      · subst c2
        rw [u1_same, if_pos (by omega), List.getD_eq_getElem?_getD, List.getElem?_append_right (by omega), show o + l.length + 1 - o - l.length = 1 by omega]
        rfl
      · rw [u1_ne c2, if_neg (by omega)]
theorem X_put_1 (T : Nat → Int32) (o : Nat) (a : Int32) : u1 T o a = X_put T o [a] 1 := by
  have k := X_put_S T o [a] 0
  rw [X_put_0] at k
  exact k
theorem X_put_2 (T : Nat → Int32) (o : Nat) (a b : Int32) : u1 (u1 T (o + 1) b) o a = X_put T o [a, b] 2 := by
  have k := X_put_app T o 0 [] a b rfl
  rw [X_put_0] at k
  exact k
set_option maxRecDepth 20000 in
theorem cq_AS_inflIf {E : En} {h : Hp} {so vb cnt m : Nat} {T : Nat → Int32} {a v9 w : Nat} {f : Nat → Int32} (hS : SbS h so vb cnt m T) (o : SvO E h a v9 w f) : CR E m_AS_inflIf [.ref so, .ref a] h (none) (h) := by
  refine ct_of rfl (by decide +kernel) (Nat.le_of_ble_eq_true rfl) ?_
  show G E m_AS_inflIf 0 [(0, .ref so), (1, .ref a)] [] h 0 0 _ noX
  obtain ⟨k_so, r_so_0, hc1, hc2, k_vb, l_vb, e_vb⟩ := id hS
  refine g_gets (pc := 0) d_AS_inflIf_0 4 rfl (tg_2 37 rfl rfl) ?_
  show G E m_AS_inflIf 3 _ [.int 1] _ _ _ _ _
  refine g_if_eq (pc := 3) (tgt := 21) d_AS_inflIf_3 (by decide) (fun c_3 => ?_) (fun c_3 => ?_)
  · exact absurd c_3 (by decide)
  · skip
    refine g_aload_n (pc := 6) d_AS_inflIf_6 rfl 0 rfl ?_
    refine g_getI (pc := 7) (ci := 8) (f := 1) rfl d_AS_inflIf_7 fl_AS_22 (by decide) (by assumption) ?_
    refine g_top hc1 ?_
    refine g_aload_n (pc := 10) d_AS_inflIf_10 rfl 1 rfl ?_
    refine g_callSv (pc := 11) (As := []) o d_AS_inflIf_11 rfl mv_ST_coder rfl st_AS_inflIf_40 rfl rfl (Nat.le_of_ble_eq_true rfl) (cq_ST_coder o) ?_
    refine g_icmp_eq (pc := 14) (tgt := 21) d_AS_inflIf_14 (by decide) (fun c_14 => ?_) (fun c_14 => ?_)
    · skip
      refine g_vret (pc := 21) d_AS_inflIf_21 rfl ?_
      exact ⟨rfl, rfl⟩
    · exact absurd rfl c_14
set_option maxRecDepth 20000 in
theorem cq_AS_putStr {E : En} {h : Hp} {so vb cnt m : Nat} {T : Nat → Int32} {a v9 w : Nat} {f : Nat → Int32} {dp : Nat} (hS : SbS h so vb cnt m T) (o : SvO E h a v9 w f) (ha : Asc w f) (hd5 : dp + w ≤ m) (hm : m ≤ 700) : CR E m_AS_putStr [.ref so, .int (nI dp), .ref a] h (none) (sA h vb (va_cpy f (hI h vb) 0 dp w)) := by
  refine ct_of rfl (by decide +kernel) (Nat.le_of_ble_eq_true rfl) ?_
  show G E m_AS_putStr 0 [(0, .ref so), (1, .int (nI dp)), (2, .ref a)] [] h 0 0 _ noX
  obtain ⟨k_so, r_so_0, hc1, hc2, k_vb, l_vb, e_vb⟩ := id hS
  refine g_aload_n (pc := 0) d_AS_putStr_0 rfl 0 rfl ?_
  refine g_aload_n (pc := 1) d_AS_putStr_1 rfl 2 rfl ?_
  refine g_callVA (k := 0) (n := 0) (kz := 0) (nz := 0) (pc := 2) (b := so) (As := [.ref _]) d_AS_putStr_2 rfl mp_AS_inflIf st_AS_putStr_397 sel_AS_inflIf k_so rfl rfl (Nat.le_of_ble_eq_true rfl) (cq_AS_inflIf hS o) (fun _ _ z => z.elim) (fun v h1 z => ?_)
  obtain ⟨rfl, e9⟩ := z
  subst h1
  refine g_aload_n (pc := 5) d_AS_putStr_5 rfl 2 rfl ?_
  refine g_aload_n (pc := 6) d_AS_putStr_6 rfl 0 rfl ?_
  refine g_getR (pc := 7) (ci := 8) (f := 0) (b := vb) rfl r_so_0 d_AS_putStr_7 fl_AS_15 (by decide) k_so ?_
  refine g_iload_n (pc := 10) d_AS_putStr_10 rfl 1 rfl ?_
  refine g_aload_n (pc := 11) d_AS_putStr_11 rfl 0 rfl ?_
  refine g_getI (pc := 12) (ci := 8) (f := 1) rfl d_AS_putStr_12 fl_AS_22 (by decide) (by assumption) ?_
  refine g_top hc1 ?_
  refine g_callSv0 (pc := 15) (As := [.ref _, .int _, .int _]) o d_AS_putStr_15 rfl mv_ST_getBytes rfl st_AS_putStr_399 rfl rfl (Nat.le_of_ble_eq_true rfl) (cq_ST_getBytes o (by omega) (by omega) ha k_vb l_vb hd5) ?_
  refine g_vret (pc := 18) d_AS_putStr_18 rfl ?_
  exact ⟨rfl, rfl⟩
set_option maxRecDepth 20000 in
theorem cq_AS_appendS {E : En} {h0 h : Hp} {so a : Nat} {l s : List Int32} (hY : SbY h0 h so l l.length) (hs : SvL E h0 a s) (hl : l.length + s.length ≤ 300) : CT E m_AS_appendS [.ref so, .ref a] h 1 700 (fun v h1 => v = some (.ref so) ∧ SbY h0 h1 so (l ++ s) (l ++ s).length) noX := by
  refine ct_of rfl (by decide +kernel) (Nat.le_of_ble_eq_true rfl) ?_
  show G E m_AS_appendS 0 [(0, .ref so), (1, .ref a)] [] h (0 + 1) (0 + 700) _ noX
  obtain ⟨y1, y2, vb, m, T, y3, hS, y5, y6, y7, y8, y9, y10⟩ := id hY
  obtain ⟨k_so, r_so_0, hc1, hc2, k_vb, l_vb, e_vb⟩ := id hS
  obtain ⟨t1, t2, v9, o⟩ := hs.ext y1
  refine g_aload_n (pc := 0) d_AS_appendS_0 rfl 1 rfl ?_
  refine g_ifnonnull (pc := 1) (tgt := 9) d_AS_appendS_1 (by decide) ?_
  refine g_aload_n (pc := 9) d_AS_appendS_9 rfl 1 rfl ?_
  refine g_callSv (pc := 10) (As := []) o d_AS_appendS_10 rfl mv_ST_length rfl st_AS_appendS_32 rfl rfl (Nat.le_of_ble_eq_true rfl) (cq_ST_length o) ?_
  refine g_istore_n (pc := 13) (lv' := [(2, .int (nI s.length)), (0, .ref so), (1, .ref a)]) d_AS_appendS_13 rfl (by decide) rfl ?_
  refine g_aload_n (pc := 14) d_AS_appendS_14 rfl 1 rfl ?_
  refine g_aload_n (pc := 15) d_AS_appendS_15 rfl 1 rfl ?_
  refine g_getI (pc := 16) (ci := 8) (f := 2) rfl d_AS_appendS_16 fl_AS_79 (by decide) (by assumption) ?_
  refine g_top hc2 ?_
  refine g_iload_n (pc := 19) d_AS_appendS_19 rfl 0 rfl ?_
  refine g_iadd (pc := 20) d_AS_appendS_20 ?_
  refine g_top (nI_add _ _) ?_
  refine g_callVA (k := 0) (n := 0) (kz := 1) (nz := 700) (pc := 21) (b := so) (As := [.int _]) d_AS_appendS_21 rfl mp_AS_ensure st_AS_appendS_100 sel_AS_ensure k_so rfl rfl (Nat.le_of_ble_eq_true rfl) (hY.ens (q := l.length + s.length) (by omega) hl) (fun _ _ z => z.elim) (fun v h1 z => ?_)
  obtain ⟨rfl, hY1⟩ := z
  clear y1 y2 y3 hS y5 y6 y7 y8 y9 y10 k_so r_so_0 hc1 hc2 k_vb l_vb e_vb o
  obtain ⟨y1, y2, vb, m, T, y3, hS, y5, y6, y7, y8, y9, y10⟩ := id hY1
  obtain ⟨k_so, r_so_0, hc1, hc2, k_vb, l_vb, e_vb⟩ := id hS
  obtain ⟨t1, t2, v9, o⟩ := hs.ext y1
  refine g_aload_n (pc := 24) d_AS_appendS_24 rfl 1 rfl ?_
  refine g_aload_n (pc := 25) d_AS_appendS_25 rfl 1 rfl ?_
  refine g_getI (pc := 26) (ci := 8) (f := 2) rfl d_AS_appendS_26 fl_AS_79 (by decide) (by assumption) ?_
  refine g_top hc2 ?_
  refine g_aload_n (pc := 29) d_AS_appendS_29 rfl 2 rfl ?_
  refine g_callVA (k := 0) (n := 0) (kz := 0) (nz := 0) (pc := 30) (b := so) (As := [.int _, .ref _]) d_AS_appendS_30 rfl mp_AS_putStr st_AS_appendS_208 sel_AS_putStr k_so rfl rfl (Nat.le_of_ble_eq_true rfl) (cq_AS_putStr hS o t2 y6 y8) (fun _ _ z => z.elim) (fun v h2 z => ?_)
  obtain ⟨rfl, rfl⟩ := z
  have nsv : so ≠ vb := fun z => by rw [z] at k_so; omega
  have k_so2 : hK (sA h1 vb (va_cpy (fun j => s.getD j 0) (hI h1 vb) 0 l.length s.length)) so = 9 := k_so
  have hc3 : hI (sA h1 vb (va_cpy (fun j => s.getD j 0) (hI h1 vb) 0 l.length s.length)) so 2 = nI l.length := by rw [hI_sA_ne nsv]; exact hc2
  refine g_aload_n (pc := 33) d_AS_appendS_33 rfl 1 rfl ?_
  refine g_dup (pc := 34) d_AS_appendS_34 rfl ?_
  refine g_getI (pc := 35) (ci := 8) (f := 2) rfl d_AS_appendS_35 fl_AS_79 (by decide) k_so2 ?_
  refine g_top hc3 ?_
  refine g_iload_n (pc := 38) d_AS_appendS_38 rfl 0 rfl ?_
  refine g_iadd (pc := 39) d_AS_appendS_39 ?_
  refine g_top (nI_add _ _) ?_
  refine g_putI (pc := 40) (ci := 8) (f := 2) rfl d_AS_appendS_40 fl_AS_79 (fun q hq => by cases hq; exact rfl) rfl rfl (by decide) k_so2 ?_
  refine g_aload_n (pc := 43) d_AS_appendS_43 rfl 1 rfl ?_
  refine g_aret (pc := 44) d_AS_appendS_44 rfl (by first | exact Or.inl ⟨_, rfl⟩ | exact Or.inr ⟨_, rfl⟩) ?_
  refine ⟨rfl, SbY.put y1 y2 y3 hS y6 y7 y8 y9 y10 rfl t2 (fun j hj => ?_) (fun j hj => ?_) (fun j hj => ?_)⟩
  · rw [va_cpy_ge (by omega), e_vb]
  · rw [va_cpy_in (by omega) (by omega)]; congr 1; omega
  · rw [va_cpy_ge (by omega), e_vb]
set_option maxRecDepth 20000 in
theorem cq_SB_appendS {E : En} {h0 h : Hp} {so a : Nat} {l s : List Int32} (hY : SbY h0 h so l l.length) (hs : SvL E h0 a s) (hl : l.length + s.length ≤ 300) : CT E m_SB_appendS [.ref so, .ref a] h 1 700 (fun v h1 => v = some (.ref so) ∧ SbY h0 h1 so (l ++ s) (l ++ s).length) noX := by
  refine ct_of rfl (by decide +kernel) (Nat.le_of_ble_eq_true rfl) ?_
  show G E m_SB_appendS 0 [(0, .ref so), (1, .ref a)] [] h (0 + 1) (0 + 700) _ noX
  obtain ⟨y1, y2, vb, m, T, y3, hS, y5, y6, y7, y8, y9, y10⟩ := id hY
  obtain ⟨k_so, r_so_0, hc1, hc2, k_vb, l_vb, e_vb⟩ := id hS
  refine g_aload_n (pc := 0) d_SB_appendS_0 rfl 0 rfl ?_
  refine g_aload_n (pc := 1) d_SB_appendS_1 rfl 1 rfl ?_
  refine g_callSU (k := 0) (n := 0) (kz := 1) (nz := 700) (pc := 2) (b := so) (As := [.ref _]) d_SB_appendS_2 rfl rfl mu_AS_appendS st_SB_appendS_29 k_so rfl rfl (Nat.le_of_ble_eq_true rfl) (cq_AS_appendS hY hs hl) (fun _ _ z => z.elim) (fun v h1 z => ?_)
  obtain ⟨rfl, hY1⟩ := z
  refine g_pop (pc := 5) d_SB_appendS_5 rfl ?_
  refine g_aload_n (pc := 6) d_SB_appendS_6 rfl 0 rfl ?_
  refine g_aret (pc := 7) d_SB_appendS_7 rfl (by first | exact Or.inl ⟨_, rfl⟩ | exact Or.inr ⟨_, rfl⟩) ?_
  exact ⟨rfl, hY1⟩
set_option maxRecDepth 20000 in
theorem lq_IT_chars {E : En} {h : Hp} {vb m : Nat} (k_vb : hK h vb = 21) (l_vb : hL h vb = m) (hm : m < 2 ^ 30) : ∀ (n w q : Nat) (T : Nat → Int32), w < 100 ^ n → w < 2 ^ 31 → dgL w ≤ q → q ≤ m → G E m_IT_getChars 22 [(2, .ref vb), (0, .int (-nI w)), (5, .int (nI q)), (6, .int 0)] [] (wL h ((vb, T) :: [])) 0 0 (fun v h9 => v = some (.int (nI (q - dgL w))) ∧ h9 = wL h ((vb, X_put T (q - dgL w) (dgF w (dgL w)) (dgL w)) :: [])) noX := by
  have nd : (vb :: ([] : List (Nat × (Nat → Int32))).map Prod.fst).Nodup := by simp
  intro n
  induction n with
  | zero =>
    intro w q T h1 h2 h3 h4
    have h5 := dgL_le w
    have h0 : w = 0 := by simp at h1; exact h1
    have w1 : w < 100 := by omega
    clear h0
    refine g_iload_n (pc := 22) d_IT_getChars_22 rfl 1 rfl ?_
    refine g_bipush (pc := 23) (v := (-100)) d_IT_getChars_23 (by decide) ?_
    refine g_icmp_gt (pc := 25) (tgt := 72) d_IT_getChars_25 (by decide) (fun c_25 => ?_) (fun c_25 => ?_)
    · skip
      refine g_aload_n (pc := 72) d_IT_getChars_72 rfl 0 rfl ?_
      obtain ⟨x_1, hx_1⟩ : ∃ y : Int32, y = (nI q) + (-1) := ⟨_, rfl⟩
      refine g_iinc (pc := 73) (w := 2) (v := x_1) (lv' := [(5, .int x_1), (2, .ref vb), (0, .int (-nI w)), (6, .int 0)]) d_IT_getChars_73 rfl (by rw [hx_1]; rfl) (by decide) rfl ?_
      refine g_iload (pc := 76) d_IT_getChars_76 0 rfl ?_
      have e1 : x_1 = nI (q - 1) := by
        rw [hx_1]
        exact nI_dn9 (by omega)
      refine g_top e1 ?_
      refine g_gets (pc := 78) d_IT_getChars_78 3 rfl (tg_3 143 rfl rfl) ?_
      show G E m_IT_getChars 81 _ (.ref (eS E 103) :: _) _ _ _ _ _
      refine g_iload_n (pc := 81) d_IT_getChars_81 rfl 2 rfl ?_
      refine g_ineg (pc := 82) d_IT_getChars_82 ?_
      refine g_top (y := nI w) Int32.neg_neg ?_
      refine g_tabB (pc := 83) (l := dOne) (i := 103) (w := 3) (j := w) rfl (show w < 100 by omega) (by decide) d_IT_getChars_83 ?_
      refine g_top (y := nI (48 + w % 10)) (by rw [dOne_at _ (by omega)]) ?_
      refine g_lbs0 (pc := 84) (j := (q - 1)) d_IT_getChars_84 k_vb l_vb (by first | assumption | omega) (by omega) nd ?_
      refine g_iload_n (pc := 85) d_IT_getChars_85 rfl 2 rfl ?_
      refine g_bipush (pc := 86) (v := (-9)) d_IT_getChars_86 (by decide) ?_
      refine g_icmp_ge (pc := 88) (tgt := 104) d_IT_getChars_88 (by decide) (fun c_88 => ?_) (fun c_88 => ?_)
      · skip
        have w2 : w < 10 := by
          have z : (-9 : Int32).toInt ≤ (-nI w : Int32).toInt := (i_le _ _).mp c_88
          rw [neg_toInt h2, show (-9 : Int32).toInt = -9 from rfl] at z
          omega
        have d1 : dgL w = 1 := dgL_0 w2
        refine g_iload (pc := 104) d_IT_getChars_104 3 rfl ?_
        refine g_if_eq (pc := 106) (tgt := 118) d_IT_getChars_106 (by decide) (fun c_106 => ?_) (fun c_106 => ?_)
        · skip
          refine g_iload (pc := 118) d_IT_getChars_118 0 rfl ?_
          refine g_top (y := nI (q - dgL w)) (by first | rw [e2, d2] | rw [e1, d1]) ?_
          refine g_iret (pc := 120) d_IT_getChars_120 rfl ?_
          refine ⟨rfl, ?_⟩
          simp only [nar_dg]
          first
          | (rw [d1, dgF_1 w2, ← X_put_1])
          | (rw [d2, dgF_2, ← X_put_2, show q - 2 + 1 = q - 1 by omega])
        · exact absurd rfl c_106
      · skip
        have w2 : ¬ w < 10 := fun z => c_88 ((i_le _ _).mpr (by rw [neg_toInt h2, show (-9 : Int32).toInt = -9 from rfl]; omega))
        have d2 : dgL w = 2 := dgL_is 2 (by decide) (by decide) w (Or.inl (by omega)) (by omega)
        refine g_aload_n (pc := 91) d_IT_getChars_91 rfl 1 rfl ?_
        obtain ⟨x_2, hx_2⟩ : ∃ y : Int32, y = x_1 + (-1) := ⟨_, rfl⟩
        refine g_iinc (pc := 92) (w := 0) (v := x_2) (lv' := [(5, .int x_2), (2, .ref vb), (0, .int (-nI w)), (6, .int 0)]) d_IT_getChars_92 rfl (by rw [hx_2]; rfl) (by decide) rfl ?_
        refine g_iload (pc := 95) d_IT_getChars_95 0 rfl ?_
        have e2 : x_2 = nI (q - 2) := by
          rw [hx_2, e1]
          rw [nI_dn9 (by omega)]; congr 1
        refine g_top e2 ?_
        refine g_gets (pc := 97) d_IT_getChars_97 2 rfl (tg_3 145 rfl rfl) ?_
        show G E m_IT_getChars 100 _ (.ref (eS E 102) :: _) _ _ _ _ _
        refine g_iload_n (pc := 100) d_IT_getChars_100 rfl 2 rfl ?_
        refine g_ineg (pc := 101) d_IT_getChars_101 ?_
        refine g_top (y := nI w) Int32.neg_neg ?_
        refine g_tabB (pc := 102) (l := dTen) (i := 102) (w := 2) (j := w) rfl (show w < 100 by omega) (by decide) d_IT_getChars_102 ?_
        refine g_top (y := nI (48 + w / 10 % 10)) (by rw [dTen_at _ (by omega)]) ?_
        refine g_lbs0 (pc := 103) (j := (q - 2)) d_IT_getChars_103 k_vb l_vb (by first | assumption | omega) (by omega) nd ?_
        refine g_iload (pc := 104) d_IT_getChars_104 3 rfl ?_
        refine g_if_eq (pc := 106) (tgt := 118) d_IT_getChars_106 (by decide) (fun c_106 => ?_) (fun c_106 => ?_)
        · skip
          refine g_iload (pc := 118) d_IT_getChars_118 0 rfl ?_
          refine g_top (y := nI (q - dgL w)) (by first | rw [e2, d2] | rw [e1, d1]) ?_
          refine g_iret (pc := 120) d_IT_getChars_120 rfl ?_
          refine ⟨rfl, ?_⟩
          simp only [nar_dg]
          first
          | (rw [d1, dgF_1 w2, ← X_put_1])
          | (rw [d2, dgF_2, ← X_put_2, show q - 2 + 1 = q - 1 by omega])
        · exact absurd rfl c_106
    · exact absurd ((neg_gt (k := 100) h2 (by decide)).mpr w1) c_25
  | succ n ih =>
    intro w q T h1 h2 h3 h4
    have h5 := dgL_le w
    refine g_iload_n (pc := 22) d_IT_getChars_22 rfl 1 rfl ?_
    refine g_bipush (pc := 23) (v := (-100)) d_IT_getChars_23 (by decide) ?_
    refine g_icmp_gt (pc := 25) (tgt := 72) d_IT_getChars_25 (by decide) (fun c_25 => ?_) (fun c_25 => ?_)
    · skip
      have w1 : w < 100 := (neg_gt h2 (by decide)).mp c_25
      refine g_aload_n (pc := 72) d_IT_getChars_72 rfl 0 rfl ?_
      obtain ⟨x_1, hx_1⟩ : ∃ y : Int32, y = (nI q) + (-1) := ⟨_, rfl⟩
      refine g_iinc (pc := 73) (w := 2) (v := x_1) (lv' := [(5, .int x_1), (2, .ref vb), (0, .int (-nI w)), (6, .int 0)]) d_IT_getChars_73 rfl (by rw [hx_1]; rfl) (by decide) rfl ?_
      refine g_iload (pc := 76) d_IT_getChars_76 0 rfl ?_
      have e1 : x_1 = nI (q - 1) := by
        rw [hx_1]
        exact nI_dn9 (by omega)
      refine g_top e1 ?_
      refine g_gets (pc := 78) d_IT_getChars_78 3 rfl (tg_3 143 rfl rfl) ?_
      show G E m_IT_getChars 81 _ (.ref (eS E 103) :: _) _ _ _ _ _
      refine g_iload_n (pc := 81) d_IT_getChars_81 rfl 2 rfl ?_
      refine g_ineg (pc := 82) d_IT_getChars_82 ?_
      refine g_top (y := nI w) Int32.neg_neg ?_
      refine g_tabB (pc := 83) (l := dOne) (i := 103) (w := 3) (j := w) rfl (show w < 100 by omega) (by decide) d_IT_getChars_83 ?_
      refine g_top (y := nI (48 + w % 10)) (by rw [dOne_at _ (by omega)]) ?_
      refine g_lbs0 (pc := 84) (j := (q - 1)) d_IT_getChars_84 k_vb l_vb (by first | assumption | omega) (by omega) nd ?_
      refine g_iload_n (pc := 85) d_IT_getChars_85 rfl 2 rfl ?_
      refine g_bipush (pc := 86) (v := (-9)) d_IT_getChars_86 (by decide) ?_
      refine g_icmp_ge (pc := 88) (tgt := 104) d_IT_getChars_88 (by decide) (fun c_88 => ?_) (fun c_88 => ?_)
      · skip
        have w2 : w < 10 := by
          have z : (-9 : Int32).toInt ≤ (-nI w : Int32).toInt := (i_le _ _).mp c_88
          rw [neg_toInt h2, show (-9 : Int32).toInt = -9 from rfl] at z
          omega
        have d1 : dgL w = 1 := dgL_0 w2
        refine g_iload (pc := 104) d_IT_getChars_104 3 rfl ?_
        refine g_if_eq (pc := 106) (tgt := 118) d_IT_getChars_106 (by decide) (fun c_106 => ?_) (fun c_106 => ?_)
        · skip
          refine g_iload (pc := 118) d_IT_getChars_118 0 rfl ?_
          refine g_top (y := nI (q - dgL w)) (by first | rw [e2, d2] | rw [e1, d1]) ?_
          refine g_iret (pc := 120) d_IT_getChars_120 rfl ?_
          refine ⟨rfl, ?_⟩
          simp only [nar_dg]
          first
          | (rw [d1, dgF_1 w2, ← X_put_1])
          | (rw [d2, dgF_2, ← X_put_2, show q - 2 + 1 = q - 1 by omega])
        · exact absurd rfl c_106
      · skip
        have w2 : ¬ w < 10 := fun z => c_88 ((i_le _ _).mpr (by rw [neg_toInt h2, show (-9 : Int32).toInt = -9 from rfl]; omega))
        have d2 : dgL w = 2 := dgL_is 2 (by decide) (by decide) w (Or.inl (by omega)) (by omega)
        refine g_aload_n (pc := 91) d_IT_getChars_91 rfl 1 rfl ?_
        obtain ⟨x_2, hx_2⟩ : ∃ y : Int32, y = x_1 + (-1) := ⟨_, rfl⟩
        refine g_iinc (pc := 92) (w := 0) (v := x_2) (lv' := [(5, .int x_2), (2, .ref vb), (0, .int (-nI w)), (6, .int 0)]) d_IT_getChars_92 rfl (by rw [hx_2]; rfl) (by decide) rfl ?_
        refine g_iload (pc := 95) d_IT_getChars_95 0 rfl ?_
        have e2 : x_2 = nI (q - 2) := by
          rw [hx_2, e1]
          rw [nI_dn9 (by omega)]; congr 1
        refine g_top e2 ?_
        refine g_gets (pc := 97) d_IT_getChars_97 2 rfl (tg_3 145 rfl rfl) ?_
        show G E m_IT_getChars 100 _ (.ref (eS E 102) :: _) _ _ _ _ _
        refine g_iload_n (pc := 100) d_IT_getChars_100 rfl 2 rfl ?_
        refine g_ineg (pc := 101) d_IT_getChars_101 ?_
        refine g_top (y := nI w) Int32.neg_neg ?_
        refine g_tabB (pc := 102) (l := dTen) (i := 102) (w := 2) (j := w) rfl (show w < 100 by omega) (by decide) d_IT_getChars_102 ?_
        refine g_top (y := nI (48 + w / 10 % 10)) (by rw [dTen_at _ (by omega)]) ?_
        refine g_lbs0 (pc := 103) (j := (q - 2)) d_IT_getChars_103 k_vb l_vb (by first | assumption | omega) (by omega) nd ?_
        refine g_iload (pc := 104) d_IT_getChars_104 3 rfl ?_
        refine g_if_eq (pc := 106) (tgt := 118) d_IT_getChars_106 (by decide) (fun c_106 => ?_) (fun c_106 => ?_)
        · skip
          refine g_iload (pc := 118) d_IT_getChars_118 0 rfl ?_
          refine g_top (y := nI (q - dgL w)) (by first | rw [e2, d2] | rw [e1, d1]) ?_
          refine g_iret (pc := 120) d_IT_getChars_120 rfl ?_
          refine ⟨rfl, ?_⟩
          simp only [nar_dg]
          first
          | (rw [d1, dgF_1 w2, ← X_put_1])
          | (rw [d2, dgF_2, ← X_put_2, show q - 2 + 1 = q - 1 by omega])
        · exact absurd rfl c_106
    · skip
      have w1 : ¬ w < 100 := fun z => c_25 ((neg_gt (k := 100) h2 (by decide)).mpr z)
      have h6 := dgL_100 (by omega) h2
      have h7 := dgL_le (w / 100)
      refine g_iload_n (pc := 28) d_IT_getChars_28 rfl 1 rfl ?_
      refine g_bipush (pc := 29) (v := 100) d_IT_getChars_29 (by decide) ?_
      refine g_idiv (pc := 31) d_IT_getChars_31 (by decide) ?_
      refine g_top (neg_div h2) ?_
      refine g_istore_n (pc := 32) (lv' := [(3, .int (-nI (w / 100))), (2, .ref vb), (0, .int (-nI w)), (5, .int (nI q)), (6, .int 0)]) d_IT_getChars_32 rfl (by decide) rfl ?_
      refine g_iload_n (pc := 33) d_IT_getChars_33 rfl 0 rfl ?_
      refine g_bipush (pc := 34) (v := 100) d_IT_getChars_34 (by decide) ?_
      refine g_imul (pc := 36) d_IT_getChars_36 ?_
      refine g_iload_n (pc := 37) d_IT_getChars_37 rfl 2 rfl ?_
      refine g_isub (pc := 38) d_IT_getChars_38 ?_
      refine g_top (neg_rem h2) ?_
      refine g_istore (pc := 39) (lv' := [(4, .int (nI (w % 100))), (3, .int (-nI (w / 100))), (2, .ref vb), (0, .int (-nI w)), (5, .int (nI q)), (6, .int 0)]) d_IT_getChars_39 (by decide) rfl ?_
      refine g_iload_n (pc := 41) d_IT_getChars_41 rfl 1 rfl ?_
      refine g_istore_n (pc := 42) (lv' := [(0, .int (-nI (w / 100))), (4, .int (nI (w % 100))), (3, .int (-nI (w / 100))), (2, .ref vb), (5, .int (nI q)), (6, .int 0)]) d_IT_getChars_42 rfl (by decide) rfl ?_
      refine g_aload_n (pc := 43) d_IT_getChars_43 rfl 3 rfl ?_
      obtain ⟨x_3, hx_3⟩ : ∃ y : Int32, y = (nI q) + (-1) := ⟨_, rfl⟩
      refine g_iinc (pc := 44) (w := 4) (v := x_3) (lv' := [(5, .int x_3), (0, .int (-nI (w / 100))), (4, .int (nI (w % 100))), (3, .int (-nI (w / 100))), (2, .ref vb), (6, .int 0)]) d_IT_getChars_44 rfl (by rw [hx_3]; rfl) (by decide) rfl ?_
      refine g_iload (pc := 47) d_IT_getChars_47 0 rfl ?_
      have e1 : x_3 = nI (q - 1) := by
        rw [hx_3]
        exact nI_dn9 (by omega)
      refine g_top e1 ?_
      refine g_gets (pc := 49) d_IT_getChars_49 3 rfl (tg_3 143 rfl rfl) ?_
      show G E m_IT_getChars 52 _ (.ref (eS E 103) :: _) _ _ _ _ _
      refine g_iload (pc := 52) d_IT_getChars_52 2 rfl ?_
      refine g_tabB (pc := 54) (l := dOne) (i := 103) (w := 3) (j := (w % 100)) rfl (show (w % 100) < 100 by omega) (by decide) d_IT_getChars_54 ?_
      refine g_top (y := nI (48 + w % 10)) (by rw [dOne_at _ (by omega)]; congr 2; omega) ?_
      refine g_lbs0 (pc := 55) (j := (q - 1)) d_IT_getChars_55 k_vb l_vb (by first | assumption | omega) (by omega) nd ?_
      refine g_aload_n (pc := 56) d_IT_getChars_56 rfl 4 rfl ?_
      obtain ⟨x_4, hx_4⟩ : ∃ y : Int32, y = x_3 + (-1) := ⟨_, rfl⟩
      refine g_iinc (pc := 57) (w := 0) (v := x_4) (lv' := [(5, .int x_4), (0, .int (-nI (w / 100))), (4, .int (nI (w % 100))), (3, .int (-nI (w / 100))), (2, .ref vb), (6, .int 0)]) d_IT_getChars_57 rfl (by rw [hx_4]; rfl) (by decide) rfl ?_
      refine g_iload (pc := 60) d_IT_getChars_60 0 rfl ?_
      have e2 : x_4 = nI (q - 2) := by
        rw [hx_4, e1]
        rw [nI_dn9 (by omega)]; congr 1
      refine g_top e2 ?_
      refine g_gets (pc := 62) d_IT_getChars_62 2 rfl (tg_3 145 rfl rfl) ?_
      show G E m_IT_getChars 65 _ (.ref (eS E 102) :: _) _ _ _ _ _
      refine g_iload (pc := 65) d_IT_getChars_65 2 rfl ?_
      refine g_tabB (pc := 67) (l := dTen) (i := 102) (w := 2) (j := (w % 100)) rfl (show (w % 100) < 100 by omega) (by decide) d_IT_getChars_67 ?_
      refine g_top (y := nI (48 + w / 10 % 10)) (by rw [dTen_at _ (by omega)]; congr 2; omega) ?_
      refine g_lbs0 (pc := 68) (j := (q - 2)) d_IT_getChars_68 k_vb l_vb (by first | assumption | omega) (by omega) nd ?_
      refine g_goto (pc := 69) (tgt := 22) d_IT_getChars_69 (by decide) ?_
      rw [e2]
      refine g_perm [4, 1, 0, 5] rfl ?_
      have k := ih (w / 100) (q - 2) (u1 (u1 T (q - 1) (nI (48 + w % 10))) (q - 2) (nI (48 + w / 10 % 10))) (by rw [Nat.pow_succ] at h1; omega) (by omega) (by omega) (by omega)
      have z := X_put_app T (q - 2 - dgL (w / 100)) (dgL (w / 100)) (dgF (w / 100) (dgL (w / 100))) (nI (48 + w / 10 % 10)) (nI (48 + w % 10)) (dgF_len _ _)
      rw [show q - 2 - dgL (w / 100) + dgL (w / 100) + 1 = q - 1 by omega, show q - 2 - dgL (w / 100) + dgL (w / 100) = q - 2 by omega, ← dgF_app, ← h6, show q - 2 - dgL (w / 100) = q - dgL w by omega] at z
      rw [show q - 2 - dgL (w / 100) = q - dgL w by omega, z] at k
      simp only [nar_dg]
      exact k
set_option maxRecDepth 20000 in
theorem cq_IT_getChars {E : En} {h : Hp} {vb m c w : Nat} {T : Nat → Int32} (k_vb : hK h vb = 21) (l_vb : hL h vb = m) (hm : m < 2 ^ 30) (hw : w < 100000) (hc : c + dgL w ≤ m) : CR E m_IT_getChars [.int (nI w), .int (nI (c + dgL w)), .ref vb] (wL h ((vb, T) :: [])) (some (.int (nI c))) ((wL h ((vb, X_put T c (dgF w (dgL w)) (dgL w)) :: []))) := by
  refine ct_of rfl (by decide +kernel) (Nat.le_of_ble_eq_true rfl) ?_
  show G E m_IT_getChars 0 [(0, .int (nI w)), (1, .int (nI (c + dgL w))), (2, .ref vb)] [] (wL h ((vb, T) :: [])) 0 0 _ noX
  have hd := dgL_le w
  refine g_iload_n (pc := 0) d_IT_getChars_0 rfl 1 rfl ?_
  refine g_istore (pc := 1) (lv' := [(5, .int (nI (c + dgL w))), (0, .int (nI w)), (1, .int (nI (c + dgL w))), (2, .ref vb)]) d_IT_getChars_1 (by decide) rfl ?_
  refine g_iload_n (pc := 3) d_IT_getChars_3 rfl 1 rfl ?_
  refine g_if_ge (pc := 4) (tgt := 11) d_IT_getChars_4 (by decide) (fun c_4 => ?_) (fun c_4 => ?_)
  · skip
    refine g_iconst (pc := 11) (v := 0) d_IT_getChars_11 (by decide) ?_
    refine g_istore (pc := 12) (lv' := [(6, .int 0), (5, .int (nI (c + dgL w))), (0, .int (nI w)), (1, .int (nI (c + dgL w))), (2, .ref vb)]) d_IT_getChars_12 (by decide) rfl ?_
    refine g_iload (pc := 14) d_IT_getChars_14 0 rfl ?_
    refine g_if_ne (pc := 16) (tgt := 22) d_IT_getChars_16 (by decide) (fun c_16 => ?_) (fun c_16 => ?_)
    · exact (c_16 (by decide)).elim
    · skip
      refine g_iload_n (pc := 19) d_IT_getChars_19 rfl 2 rfl ?_
      refine g_ineg (pc := 20) d_IT_getChars_20 ?_
      refine g_istore_n (pc := 21) (lv' := [(0, .int (-nI w)), (6, .int 0), (5, .int (nI (c + dgL w))), (1, .int (nI (c + dgL w))), (2, .ref vb)]) d_IT_getChars_21 rfl (by decide) rfl ?_
      have k := lq_IT_chars (E := E) k_vb l_vb hm 5 w (c + dgL w) T (by omega) (by omega) (by omega) hc
      rw [show c + dgL w - dgL w = c by omega] at k
      refine g_perm [4, 0, 2, 1] rfl ?_
      exact k
  · exact absurd (show (0 : Int32) ≤ nI w from Int32.not_lt.mp (lt0 (by omega))) c_4
theorem dgF_asc (w : Nat) : ∀ k j, j < k → ∃ b, b < 128 ∧ (dgF w k).getD j 0 = nI b
  | 0, j, hj => absurd hj (Nat.not_lt_zero j)
  | k + 1, 0, _ => ⟨48 + w / 10 ^ k % 10, by omega, rfl⟩
  | k + 1, j + 1, hj => dgF_asc w k j (by omega)
set_option maxRecDepth 20000 in
theorem cq_AS_appendI {E : En} {h0 h : Hp} {so w : Nat} {l : List Int32} (hY : SbY h0 h so l l.length) (hw : w < 100000) (hl : l.length + dgL w ≤ 300) : CT E m_AS_appendI [.ref so, .int (nI w)] h 1 700 (fun v h1 => v = some (.ref so) ∧ SbY h0 h1 so (l ++ dgF w (dgL w)) (l ++ dgF w (dgL w)).length) noX := by
  refine ct_of rfl (by decide +kernel) (Nat.le_of_ble_eq_true rfl) ?_
  show G E m_AS_appendI 0 [(0, .ref so), (1, .int (nI w))] [] h (0 + 1) (0 + 700) _ noX
  obtain ⟨y1, y2, vb, m, T, y3, hS, y5, y6, y7, y8, y9, y10⟩ := id hY
  obtain ⟨k_so, r_so_0, hc1, hc2, k_vb, l_vb, e_vb⟩ := id hS
  have hd9 := dgL_le w
  refine g_aload_n (pc := 0) d_AS_appendI_0 rfl 0 rfl ?_
  refine g_getI (pc := 1) (ci := 8) (f := 2) rfl d_AS_appendI_1 fl_AS_79 (by decide) (by assumption) ?_
  refine g_top hc2 ?_
  refine g_istore_n (pc := 4) (lv' := [(2, .int (nI l.length)), (0, .ref so), (1, .int (nI w))]) d_AS_appendI_4 rfl (by decide) rfl ?_
  refine g_iload_n (pc := 5) d_AS_appendI_5 rfl 0 rfl ?_
  refine g_iload_n (pc := 6) d_AS_appendI_6 rfl 2 rfl ?_
  refine g_cS1 (pc := 7) (As := [.int _]) d_AS_appendI_7 rfl ms_IT_stringSize st_AS_appendI_245 rfl rfl (Nat.le_of_ble_eq_true rfl) (ct_IT_stringSize (by rw [nI_toInt (by omega)]; omega)) ?_
  refine g_top (y := nI (dgL w)) (by rw [nI_toInt (by omega), if_neg (lt0 (by omega)), Nat.add_zero]; rfl) ?_
  refine g_iadd (pc := 10) d_AS_appendI_10 ?_
  refine g_top (nI_add _ _) ?_
  refine g_istore_n (pc := 11) (lv' := [(3, .int (nI (l.length + dgL w))), (2, .int (nI l.length)), (0, .ref so), (1, .int (nI w))]) d_AS_appendI_11 rfl (by decide) rfl ?_
  refine g_aload_n (pc := 12) d_AS_appendI_12 rfl 2 rfl ?_
  refine g_iload_n (pc := 13) d_AS_appendI_13 rfl 0 rfl ?_
  refine g_callVA (k := 0) (n := 0) (kz := 1) (nz := 700) (pc := 14) (b := so) (As := [.int _]) d_AS_appendI_14 rfl mp_AS_ensure st_AS_appendI_100 sel_AS_ensure k_so rfl rfl (Nat.le_of_ble_eq_true rfl) (hY.ens (q := l.length + dgL w) (by omega) hl) (fun _ _ z => z.elim) (fun v h1 z => ?_)
  obtain ⟨rfl, hY1⟩ := z
  clear y1 y2 y3 hS y5 y6 y7 y8 y9 y10 k_so r_so_0 hc1 hc2 k_vb l_vb e_vb
  obtain ⟨y1, y2, vb, m, T, y3, hS, y5, y6, y7, y8, y9, y10⟩ := id hY1
  obtain ⟨k_so, r_so_0, hc1, hc2, k_vb, l_vb, e_vb⟩ := id hS
  refine g_aload_n (pc := 17) d_AS_appendI_17 rfl 2 rfl ?_
  refine g_callVA (k := 0) (n := 0) (kz := 0) (nz := 0) (pc := 18) (b := so) (As := []) d_AS_appendI_18 rfl mp_AS_isLatin1 st_AS_appendI_83 sel_AS_isLatin1 k_so rfl rfl (Nat.le_of_ble_eq_true rfl) (cq_AS_isLatin1 hS) (fun _ _ z => z.elim) (fun v h2 z => ?_)
  obtain ⟨rfl, e9⟩ := z
  subst h2
  refine g_if_eq (pc := 21) (tgt := 37) d_AS_appendI_21 (by decide) (fun c_21 => ?_) (fun c_21 => ?_)
  · exact absurd c_21 (by decide)
  · skip
    refine g_iload_n (pc := 24) d_AS_appendI_24 rfl 3 rfl ?_
    refine g_iload_n (pc := 25) d_AS_appendI_25 rfl 0 rfl ?_
    refine g_aload_n (pc := 26) d_AS_appendI_26 rfl 2 rfl ?_
    refine g_getR (pc := 27) (ci := 8) (f := 0) (b := vb) rfl r_so_0 d_AS_appendI_27 fl_AS_15 (by decide) k_so ?_
    refine g_h (show h1 = wL h1 ((vb, T) :: []) by rw [wL_one, ← e_vb, sA_self]) ?_
    refine g_cS1 (pc := 30) (As := [.int _, .int _, .ref _]) d_AS_appendI_30 rfl ms_IT_getChars st_AS_appendI_248 rfl rfl (Nat.le_of_ble_eq_true rfl) (cq_IT_getChars k_vb l_vb (by omega) hw y6) ?_
    refine g_h (wL_one _ _ _) ?_
    refine g_pop (pc := 33) d_AS_appendI_33 rfl ?_
    refine g_goto (pc := 34) (tgt := 48) d_AS_appendI_34 (by decide) ?_
    have nsv : so ≠ vb := fun z => by rw [z] at k_so; omega
    have k_so2 : hK (sA h1 vb (X_put T l.length (dgF w (dgL w)) (dgL w))) so = 9 := k_so
    refine g_aload_n (pc := 48) d_AS_appendI_48 rfl 2 rfl ?_
    refine g_iload_n (pc := 49) d_AS_appendI_49 rfl 0 rfl ?_
    refine g_putI (pc := 50) (ci := 8) (f := 2) rfl d_AS_appendI_50 fl_AS_79 (fun q hq => by cases hq; exact rfl) rfl rfl (by decide) k_so2 ?_
    refine g_aload_n (pc := 53) d_AS_appendI_53 rfl 2 rfl ?_
    refine g_aret (pc := 54) d_AS_appendI_54 rfl (by first | exact Or.inl ⟨_, rfl⟩ | exact Or.inr ⟨_, rfl⟩) ?_
    refine ⟨rfl, ?_⟩
    have el := dgF_len w (dgL w)
    have k := SbY.put (f := X_put T l.length (dgF w (dgL w)) (dgL w)) (s := dgF w (dgL w)) y1 y2 y3 hS y6 y7 y8 y9 y10 (by rw [el]) (fun j hj => dgF_asc w _ j (by rw [el] at hj; exact hj)) (fun j hj => ?_) (fun j hj => ?_) (fun j hj => ?_)
    · rw [el] at k; exact k
    · unfold X_put; rw [if_neg (by omega)]
    · unfold X_put; rw [if_pos (by omega)]; congr 1; omega
    · unfold X_put; rw [if_neg (by omega)]
set_option maxRecDepth 20000 in
theorem cq_SB_appendI {E : En} {h0 h : Hp} {so w : Nat} {l : List Int32} (hY : SbY h0 h so l l.length) (hw : w < 100000) (hl : l.length + dgL w ≤ 300) : CT E m_SB_appendI [.ref so, .int (nI w)] h 1 700 (fun v h1 => v = some (.ref so) ∧ SbY h0 h1 so (l ++ dgF w (dgL w)) (l ++ dgF w (dgL w)).length) noX := by
  refine ct_of rfl (by decide +kernel) (Nat.le_of_ble_eq_true rfl) ?_
  show G E m_SB_appendI 0 [(0, .ref so), (1, .int (nI w))] [] h (0 + 1) (0 + 700) _ noX
  obtain ⟨y1, y2, vb, m, T, y3, hS, y5, y6, y7, y8, y9, y10⟩ := id hY
  obtain ⟨k_so, r_so_0, hc1, hc2, k_vb, l_vb, e_vb⟩ := id hS
  refine g_aload_n (pc := 0) d_SB_appendI_0 rfl 0 rfl ?_
  refine g_iload_n (pc := 1) d_SB_appendI_1 rfl 1 rfl ?_
  refine g_callSU (k := 0) (n := 0) (kz := 1) (nz := 700) (pc := 2) (b := so) (As := [.int _]) d_SB_appendI_2 rfl rfl mu_AS_appendI st_SB_appendI_53 k_so rfl rfl (Nat.le_of_ble_eq_true rfl) (cq_AS_appendI hY hw hl) (fun _ _ z => z.elim) (fun v h1 z => ?_)
  obtain ⟨rfl, hY1⟩ := z
  refine g_pop (pc := 5) d_SB_appendI_5 rfl ?_
  refine g_aload_n (pc := 6) d_SB_appendI_6 rfl 0 rfl ?_
  refine g_aret (pc := 7) d_SB_appendI_7 rfl (by first | exact Or.inl ⟨_, rfl⟩ | exact Or.inr ⟨_, rfl⟩) ?_
  exact ⟨rfl, hY1⟩
