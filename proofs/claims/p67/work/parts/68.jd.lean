/-! THE JDK: toString, an empty StringBuilder -/
theorem SbS.sub {h h1 : Hp} {so vb cnt m : Nat} {T : Nat → Int32} (s : SbS h so vb cnt m T) (e : ∀ q, hK h q ≠ 0 → hI h1 q = hI h q ∧ hR h1 q = hR h q ∧ hK h1 q = hK h q ∧ hL h1 q = hL h q) : SbS h1 so vb cnt m T := by
  obtain ⟨s1, s2, s3, s4, s5, s6, s7⟩ := s
  obtain ⟨a1, a2, a3, a4⟩ := e so (by omega)
  obtain ⟨b1, b2, b3, b4⟩ := e vb (by omega)
  exact ⟨a3.trans s1, by rw [a2]; exact s2, by rw [a1]; exact s3, by rw [a1]; exact s4, b3.trans s5, b4.trans s6, by rw [b1]; exact s7⟩
theorem hL_sA9 (h : Hp) (a : Nat) (f : Nat → Int32) (q : Nat) : hL (sA h a f) q = hL h q := rfl
set_option maxRecDepth 20000 in
theorem cq_AR_checkLength {E : En} {h : Hp} {q : Nat} (hq : q < 2 ^ 31) : CR E m_AR_checkLength [.int 0, .int (nI q)] h (none) (h) := by
  refine ct_of rfl (by decide +kernel) (Nat.le_of_ble_eq_true rfl) ?_
  show G E m_AR_checkLength 0 [(0, .int 0), (1, .int (nI q))] [] h 0 0 _ noX
  refine g_iload_n (pc := 0) d_AR_checkLength_0 rfl 1 rfl ?_
  refine g_iload_n (pc := 1) d_AR_checkLength_1 rfl 0 rfl ?_
  refine g_icmp_ge (pc := 2) (tgt := 37) d_AR_checkLength_2 (by decide) (fun c_2 => ?_) (fun c_2 => ?_)
  · skip
    refine g_vret (pc := 37) d_AR_checkLength_37 rfl ?_
    exact ⟨rfl, rfl⟩
  · exact absurd (show (0 : Int32) ≤ nI q from Int32.not_lt.mp (lt0 (by omega))) c_2
set_option maxRecDepth 20000 in
theorem cq_AR_copyRangeB {E : En} {h : Hp} {vb m q : Nat} {T : Nat → Int32} (k_vb : hK h vb = 21) (l_vb : hL h vb = m) (e_vb : hI h vb = T) (hq : q ≤ m) (hm : m ≤ 700) (ha : Asc m T) : CT E m_AR_copyRangeB [.ref vb, .int 0, .int (nI q)] h 1 q (fun v h1 => ∃ b F, hK h b = 0 ∧ v = some (.ref b) ∧ h1 = sA (hNew h b 21 q) b F ∧ ∀ j, j < q → F j = T j) noX := by
  refine ct_of rfl (by decide +kernel) (Nat.le_of_ble_eq_true rfl) ?_
  show G E m_AR_copyRangeB 0 [(0, .ref vb), (1, .int 0), (2, .int (nI q))] [] h 1 q _ noX
  refine G.mono (k := 0 + 1) (n := 0 + q) (by omega) (by omega) ?_
  refine g_iload_n (pc := 0) d_AR_copyRangeB_0 rfl 1 rfl ?_
  refine g_iload_n (pc := 1) d_AR_copyRangeB_1 rfl 2 rfl ?_
  refine g_cS0 (pc := 2) (As := [.int _, .int _]) d_AR_copyRangeB_2 rfl ms_AR_checkLength st_AR_copyRangeB_343 rfl rfl (Nat.le_of_ble_eq_true rfl) (cq_AR_checkLength (by omega)) ?_
  refine g_iload_n (pc := 5) d_AR_copyRangeB_5 rfl 2 rfl ?_
  refine g_iload_n (pc := 6) d_AR_copyRangeB_6 rfl 1 rfl ?_
  refine g_isub (pc := 7) d_AR_copyRangeB_7 ?_
  refine g_top (y := nI q) (Int32.sub_zero _) ?_
  refine g_istore_n (pc := 8) (lv' := [(3, .int (nI q)), (0, .ref vb), (1, .int 0), (2, .int (nI q))]) d_AR_copyRangeB_8 rfl (by decide) rfl ?_
  refine g_iload_n (pc := 9) d_AR_copyRangeB_9 rfl 0 rfl ?_
  refine g_newarray (k := 0) (n := 0) (pc := 10) (kd := 21) (N := q) d_AR_copyRangeB_10 ⟨by decide, by decide⟩ rfl ac_b (lt0 (by omega)) (nI_clamp (by omega)) (by show q * 1 ≤ _; omega) (fun b hb => ?_)
  have nv : vb ≠ b := fun z => by rw [z] at k_vb; omega
  have k_v2 : hK (hNew h b 21 q) vb = 21 := by rw [hK_new, if_neg nv]; exact k_vb
  have l_v2 : hL (hNew h b 21 q) vb = m := by rw [hL_new, if_neg nv]; exact l_vb
  have e_v2 : hI (hNew h b 21 q) vb = T := by rw [hI_new, if_neg nv]; exact e_vb
  have k_a2 : hK (hNew h b 21 q) b = 21 := by rw [hK_new, if_pos rfl]
  have l_a2 : hL (hNew h b 21 q) b = q := by rw [hL_new, if_pos rfl]
  refine g_astore (pc := 12) (lv' := [(4, .ref b), (3, .int (nI q)), (0, .ref vb), (1, .int 0), (2, .int (nI q))]) d_AR_copyRangeB_12 (by decide) rfl ?_
  refine g_aload_n (pc := 14) d_AR_copyRangeB_14 rfl 2 rfl ?_
  refine g_iload_n (pc := 15) d_AR_copyRangeB_15 rfl 3 rfl ?_
  refine g_aload (pc := 16) d_AR_copyRangeB_16 0 rfl ?_
  refine g_iconst (pc := 18) (v := 0) d_AR_copyRangeB_18 (by decide) ?_
  refine g_aload_n (pc := 19) d_AR_copyRangeB_19 rfl 2 rfl ?_
  refine g_alenB k_v2 l_v2 (pc := 20) d_AR_copyRangeB_20 ?_
  refine g_iload_n (pc := 21) d_AR_copyRangeB_21 rfl 3 rfl ?_
  refine g_isub (pc := 22) d_AR_copyRangeB_22 ?_
  refine g_top (y := nI m) (Int32.sub_zero _) ?_
  refine g_iload_n (pc := 23) d_AR_copyRangeB_23 rfl 1 rfl ?_
  refine g_min (pc := 24) d_AR_copyRangeB_24 mm_AR_copyRangeB_304 (Nat.le_of_ble_eq_true rfl) ?_
  refine g_top (y := nI q) (by rw [min_nI (by omega) (by omega)]; congr 1; split <;> omega) ?_
  refine g_copyB (pc := 27) (sp := 0) (dp := 0) (N := q) (m := m) (n1 := q) (f := T) (Or.inr ⟨k_v2, l_v2, fun j _ => by rw [e_v2]⟩) k_a2 l_a2 (by omega) (by omega) (by omega) (by omega) ha ac_AR_copyRangeB_150 (Nat.le_of_ble_eq_true rfl) d_AR_copyRangeB_27 ?_
  refine g_aload (pc := 30) d_AR_copyRangeB_30 0 rfl ?_
  refine g_aret (pc := 32) d_AR_copyRangeB_32 rfl (by first | exact Or.inl ⟨_, rfl⟩ | exact Or.inr ⟨_, rfl⟩) ?_
  exact ⟨b, _, hb, rfl, rfl, fun j hj => va_cpy_lt hj⟩
set_option maxRecDepth 20000 in
theorem cq_AR_copyRange {E : En} {h : Hp} {vb m q : Nat} {T : Nat → Int32} (k_vb : hK h vb = 21) (l_vb : hL h vb = m) (e_vb : hI h vb = T) (hq : q ≤ m) (hm : m ≤ 700) (ha : Asc m T) : CT E m_AR_copyRange [.ref vb, .int 0, .int (nI q)] h 1 q (fun v h1 => ∃ b F, hK h b = 0 ∧ v = some (.ref b) ∧ h1 = sA (hNew h b 21 q) b F ∧ ∀ j, j < q → F j = T j) noX := by
  refine ct_of rfl (by decide +kernel) (Nat.le_of_ble_eq_true rfl) ?_
  show G E m_AR_copyRange 0 [(0, .ref vb), (1, .int 0), (2, .int (nI q))] [] h 1 q _ noX
  refine G.mono (k := 0 + 1) (n := 0 + q) (by omega) (by omega) ?_
  refine g_iload_n (pc := 0) d_AR_copyRange_0 rfl 1 rfl ?_
  refine g_if_ne (pc := 1) (tgt := 10) d_AR_copyRange_1 (by decide) (fun c_1 => ?_) (fun c_1 => ?_)
  · exact absurd rfl c_1
  · skip
    refine g_iload_n (pc := 4) d_AR_copyRange_4 rfl 2 rfl ?_
    refine g_aload_n (pc := 5) d_AR_copyRange_5 rfl 0 rfl ?_
    refine g_alenB k_vb l_vb (pc := 6) d_AR_copyRange_6 ?_
    refine g_icmp_eq (pc := 7) (tgt := 17) d_AR_copyRange_7 (by decide) (fun c_7 => ?_) (fun c_7 => ?_)
    · skip
      have eqm : q = m := nI_inj (by omega) (by omega) c_7
      subst eqm
      refine g_aload_n (pc := 17) d_AR_copyRange_17 rfl 0 rfl ?_
      refine g_cloneB (k := 0) (n := 0) (pc := 18) k_vb l_vb (by rw [e_vb]; exact ha) cw_clone (Nat.le_of_ble_eq_true rfl) d_AR_copyRange_18 d_AR_copyRange_21 (fun b hb => ?_)
      refine g_aret (pc := 24) d_AR_copyRange_24 rfl (by first | exact Or.inl ⟨_, rfl⟩ | exact Or.inr ⟨_, rfl⟩) ?_
      exact ⟨b, _, hb, rfl, rfl, fun j _ => by rw [e_vb]⟩
    · skip
      refine g_aload_n (pc := 10) d_AR_copyRange_10 rfl 0 rfl ?_
      refine g_iload_n (pc := 11) d_AR_copyRange_11 rfl 1 rfl ?_
      refine g_iload_n (pc := 12) d_AR_copyRange_12 rfl 2 rfl ?_
      refine g_callS (k := 0) (n := 0) (kz := 1) (nz := q) (pc := 13) (As := [.ref _, .int _, .int _]) d_AR_copyRange_13 rfl ms_AR_copyRangeB st_AR_copyRange_339 rfl rfl (Nat.le_of_ble_eq_true rfl) (cq_AR_copyRangeB k_vb l_vb e_vb hq hm ha) (fun _ _ z => z.elim) (fun v h1 z => ?_)
      obtain ⟨b, F, hb, rfl, rfl, hF⟩ := z
      refine g_aret (pc := 16) d_AR_copyRange_16 rfl (by first | exact Or.inl ⟨_, rfl⟩ | exact Or.inr ⟨_, rfl⟩) ?_
      exact ⟨b, F, hb, rfl, rfl, hF⟩
def NwT (h h1 : Hp) (a : Nat) (l : List Int32) : Prop := ∃ u, hK h u = 0 ∧ hK h1 a = 11 ∧ hR h1 a 0 = some u ∧ hI h1 a 1 = 0 ∧ hK h1 u = 21 ∧ hL h1 u = l.length ∧ ∀ j, j < l.length → hI h1 u j = l.getD j 0
set_option maxRecDepth 20000 in
theorem cq_ST_initA {E : En} {h0 h : Hp} {a so : Nat} {l : List Int32} (hY : SbY h0 h so l l.length) (ha : hK h a = 0) (hl : l.length ≤ 300) : CT E m_ST_initA [.ref a, .ref so, .null ] (hNew h a 11 0) 1 300 (fun v h1 => v = none ∧ Ext h h1 ∧ SvL E h1 a l ∧ NwT h h1 a l) noX := by
  refine ct_of rfl (by decide +kernel) (Nat.le_of_ble_eq_true rfl) ?_
  show G E m_ST_initA 0 [(0, .ref a), (1, .ref so), (2, .null )] [] (hNew h a 11 0) 1 300 _ noX
  obtain ⟨y1, y2, vb, m, T, y3, hS0, y5, y6, y7, y8, y9, y10⟩ := id hY
  have na : ∀ q, hK h q ≠ 0 → q ≠ a := fun q hq z => hq (by rw [z]; exact ha)
  have hS : SbS (hNew h a 11 0) so vb l.length m T := hS0.sub (fun q hq => ⟨by rw [hI_new, if_neg (na q hq)], by rw [hR_new, if_neg (na q hq)], by rw [hK_new, if_neg (na q hq)], by rw [hL_new, if_neg (na q hq)]⟩)
  obtain ⟨k_so, r_so_0, hc1, hc2, k_vb, l_vb, e_vb⟩ := id hS
  have k_a : hK (hNew h a 11 0) a = 11 := by rw [hK_new, if_pos rfl]
  have nva : vb ≠ a := fun z => by rw [z] at k_vb; omega
  refine G.mono (k := 0 + 1) (n := 0 + l.length) (by omega) (by omega) ?_
  refine g_aload_n (pc := 0) d_ST_initA_0 rfl 0 rfl ?_
  refine g_objInit (pc := 1) d_ST_initA_1 oi_ST_initA (Nat.le_of_ble_eq_true rfl) (Nat.le_of_ble_eq_true rfl) (Nat.le_of_ble_eq_true rfl) ?_
  refine g_aload_n (pc := 4) d_ST_initA_4 rfl 1 rfl ?_
  refine g_callVA (k := 0 + 1) (n := 0 + l.length) (kz := 0) (nz := 0) (pc := 5) (b := so) (As := []) d_ST_initA_5 rfl mp_AS_getValue st_ST_initA_552 sel_AS_getValue k_so rfl rfl (Nat.le_of_ble_eq_true rfl) (cq_AS_getValue hS) (fun _ _ z => z.elim) (fun v h1 z => ?_)
  obtain ⟨rfl, rfl⟩ := z
  refine g_astore_n (pc := 8) (lv' := [(3, .ref vb), (0, .ref a), (1, .ref so), (2, .null )]) d_ST_initA_8 rfl (by decide) rfl ?_
  refine g_aload_n (pc := 9) d_ST_initA_9 rfl 2 rfl ?_
  refine g_callVO (k := 0 + 1) (n := 0 + l.length) (kz := 0) (nz := 0) (pc := 10) (b := so) (As := []) d_ST_initA_10 rfl mo_length ⟨tg_3 173 rfl rfl, by decide, by decide⟩ k_so rfl rfl (Nat.le_of_ble_eq_true rfl) (cq_SB_length hS) (fun _ _ z => z.elim) (fun v h1 z => ?_)
  obtain ⟨rfl, rfl⟩ := z
  refine g_istore (pc := 13) (lv' := [(4, .int (nI l.length)), (3, .ref vb), (0, .ref a), (1, .ref so), (2, .null )]) d_ST_initA_13 (by decide) rfl ?_
  refine g_aload_n (pc := 15) d_ST_initA_15 rfl 3 rfl ?_
  refine g_callVA (k := 0 + 1) (n := 0 + l.length) (kz := 0) (nz := 0) (pc := 16) (b := so) (As := []) d_ST_initA_16 rfl mp_AS_isLatin1 st_ST_initA_1047 sel_AS_isLatin1 k_so rfl rfl (Nat.le_of_ble_eq_true rfl) (cq_AS_isLatin1 hS) (fun _ _ z => z.elim) (fun v h1 z => ?_)
  obtain ⟨rfl, rfl⟩ := z
  refine g_if_eq (pc := 19) (tgt := 41) d_ST_initA_19 (by decide) (fun c_19 => ?_) (fun c_19 => ?_)
  · exact absurd c_19 (by decide)
  · skip
    refine g_aload_n (pc := 22) d_ST_initA_22 rfl 2 rfl ?_
    refine g_iconst (pc := 23) (v := 0) d_ST_initA_23 (by decide) ?_
    refine g_putFI (pc := 24) (ci := 10) (f := 1) rfl d_ST_initA_24 fl_ST_15 (fun q hq => by cases hq; exact ⟨rfl, rfl⟩) rfl rfl rfl (by decide) k_a ?_
    refine g_aload_n (pc := 27) d_ST_initA_27 rfl 2 rfl ?_
    refine g_aload_n (pc := 28) d_ST_initA_28 rfl 1 rfl ?_
    refine g_iconst (pc := 29) (v := 0) d_ST_initA_29 (by decide) ?_
    refine g_iload (pc := 30) d_ST_initA_30 0 rfl ?_
    have e_v3 : hI (sI (hNew h a 11 0) a 1 0) vb = T := by rw [sI_sA, hI_sA_ne nva]; exact e_vb
    refine g_callS (k := 0) (n := 0) (kz := 1) (nz := l.length) (pc := 32) (As := [.ref _, .int _, .int _]) d_ST_initA_32 rfl ms_AR_copyRange st_ST_initA_54 rfl rfl (Nat.le_of_ble_eq_true rfl) (cq_AR_copyRange (h := sI (hNew h a 11 0) a 1 0) k_vb l_vb e_v3 y5 y8 y9) (fun _ _ z => z.elim) (fun v h1 z => ?_)
    obtain ⟨b, F, hb, rfl, rfl, hF⟩ := z
    have hb : hK (hNew h a 11 0) b = 0 := hb
    obtain ⟨nba, hb0⟩ := fresh_new (by decide) hb
    refine g_putFR (pc := 35) (ci := 10) (f := 0) rfl d_ST_initA_35 fl_ST_9 (fun q hq => by cases hq; exact ⟨rfl, rfl⟩) rfl rfl rfl (by decide) (by show hK (hNew (hNew h a 11 0) b 21 l.length) a = 11; rw [hK_new, if_neg (Ne.symm nba)]; exact k_a) ?_
    refine g_goto (pc := 38) (tgt := 97) d_ST_initA_38 (by decide) ?_
    refine g_vret (pc := 97) d_ST_initA_97 rfl ?_
    have hn : ∀ j, j < l.length → F j = l.getD j 0 := fun j hj => (hF j hj).trans (y10 j hj)
    have nab : a ≠ b := Ne.symm nba
    have key : ∀ H : Hp, hK H a = 11 → hR H a 0 = some b → hI H a 1 = 0 → hK H b = 21 → hL H b = l.length → (∀ j, j < l.length → hI H b j = l.getD j 0) → SvL E H a l ∧ NwT h H a l := fun H q1 q2 q3 q4 q5 q6 => ⟨⟨by omega, fun j hj => by have z := y9 j (by omega); rw [y10 j hj] at z; exact z, b, Or.inr ⟨q1, q2, q3, q4, q5, q6⟩⟩, b, hb0, q1, q2, q3, q4, q5, q6⟩
    refine ⟨rfl, (((((Ext.r.new ha).sI ha).new (by show hK (hNew h a 11 0) b = 0; exact hb)).sA hb0).sR ha), key _ ?_ ?_ ?_ ?_ ?_ ?_⟩
    · show hK (hNew (hNew h a 11 0) b 21 l.length) a = 11
      rw [hK_new, if_neg nab]; exact k_a
    · rw [hR_sR, if_pos ⟨rfl, rfl⟩]
    · show hI (sA (hNew (sI (hNew h a 11 0) a 1 0) b 21 l.length) b F) a 1 = 0
      rw [hI_sA_ne nab, hI_new, if_neg nab, hI_sI, if_pos ⟨rfl, rfl⟩]
    · show hK (hNew (sI (hNew h a 11 0) a 1 0) b 21 l.length) b = 21
      rw [hK_new, if_pos rfl]
    · show hL (hNew (sI (hNew h a 11 0) a 1 0) b 21 l.length) b = _
      rw [hL_new, if_pos rfl]
    · intro j hj
      show hI (sA (hNew (sI (hNew h a 11 0) a 1 0) b 21 l.length) b F) b j = _
      rw [hI_sA_same]; exact hn j hj
set_option maxRecDepth 20000 in
theorem cq_ST_initB {E : En} {h0 h : Hp} {a so : Nat} {l : List Int32} (hY : SbY h0 h so l l.length) (ha : hK h a = 0) (hl : l.length ≤ 300) : CT E m_ST_initB [.ref a, .ref so] (hNew h a 11 0) 1 300 (fun v h1 => v = none ∧ Ext h h1 ∧ SvL E h1 a l ∧ NwT h h1 a l) noX := by
  refine ct_of rfl (by decide +kernel) (Nat.le_of_ble_eq_true rfl) ?_
  show G E m_ST_initB 0 [(0, .ref a), (1, .ref so)] [] (hNew h a 11 0) (0 + 1) (0 + 300) _ noX
  refine g_aload_n (pc := 0) d_ST_initB_0 rfl 0 rfl ?_
  refine g_aload_n (pc := 1) d_ST_initB_1 rfl 1 rfl ?_
  refine g_null (pc := 2) d_ST_initB_2 ?_
  refine g_callI (k := 0) (n := 0) (kz := 1) (nz := 300) (pc := 3) (As := [.ref _, .null]) (b := a) d_ST_initB_3 rfl mi_ST_initA st_ST_initB_489 rfl rfl (Nat.le_of_ble_eq_true rfl) (cq_ST_initA hY ha hl) (fun _ _ z => z.elim) (fun v h1 z => ?_)
  obtain ⟨rfl, z2⟩ := z
  refine g_vret (pc := 6) d_ST_initB_6 rfl ?_
  exact ⟨rfl, z2⟩
set_option maxRecDepth 20000 in
theorem cq_SB_toString {E : En} {h0 h : Hp} {so : Nat} {l : List Int32} (hY : SbY h0 h so l l.length) (hl : l.length ≤ 300) : CT E m_SB_toString [.ref so] h 2 304 (fun v h1 => ∃ a, v = some (.ref a) ∧ hK h a = 0 ∧ Ext h h1 ∧ SvL E h1 a l ∧ NwT h h1 a l) noX := by
  refine ct_of rfl (by decide +kernel) (Nat.le_of_ble_eq_true rfl) ?_
  show G E m_SB_toString 0 [(0, .ref so)] [] h (1 + 1) (300 + cNf 10) _ noX
  refine g_new (k := 1) (n := 300) (pc := 0) (ci := 10) d_SB_toString_0 cl_SB_toString_18 (by decide) (fun a ha => ?_)
  refine g_dup (pc := 3) d_SB_toString_3 rfl ?_
  refine g_aload_n (pc := 4) d_SB_toString_4 rfl 0 rfl ?_
  refine g_callI (k := 0) (n := 0) (kz := 1) (nz := 300) (pc := 5) (As := [.ref _]) (b := a) d_SB_toString_5 rfl mi_ST_initB st_SB_toString_137 rfl rfl (Nat.le_of_ble_eq_true rfl) (cq_ST_initB hY ha hl) (fun _ _ z => z.elim) (fun v h1 z => ?_)
  obtain ⟨rfl, z2⟩ := z
  refine g_aret (pc := 8) d_SB_toString_8 rfl (by first | exact Or.inl ⟨_, rfl⟩ | exact Or.inr ⟨_, rfl⟩) ?_
  exact ⟨a, rfl, ha, z2⟩
theorem cq_AS_init {E : En} {h0 : Hp} {a : Nat} (ha : hK h0 a = 0) : CT E m_AS_init [.ref a, .int 16] (hNew h0 a 9 0) 1 16 (fun v h1 => v = none ∧ Ext h0 h1 ∧ (∃ vb, SbOk h1 a vb ∧ Fr h0 [a, vb] ∧ hI h1 vb = fun _ => 0) ∧ hI h1 a = fun _ => 0) noX := by
  refine ct_of rfl (by decide +kernel) (Nat.le_of_ble_eq_true rfl) ?_
  show G E m_AS_init 0 [(0, .ref a), (1, .int 16)] [] (hNew h0 a 9 0) (0 + 1) (0 + 16) _ noX
  refine g_aload_n (pc := 0) d_AS_init_0 rfl 0 rfl ?_
  refine g_objInit (pc := 1) d_AS_init_1 oi_AS_init (Nat.le_of_ble_eq_true rfl) (Nat.le_of_ble_eq_true rfl) (Nat.le_of_ble_eq_true rfl) ?_
  refine g_gets (pc := 4) d_AS_init_4 4 rfl (tg_2 37 rfl rfl) ?_
  show G E m_AS_init 7 _ [.int 1] _ _ _ _ _
  refine g_if_eq (pc := 7) (tgt := 25) d_AS_init_7 (by decide) (fun c => absurd c (by decide)) (fun _ => ?_)
  refine g_aload_n (pc := 10) d_AS_init_10 rfl 0 rfl ?_
  refine g_iload_n (pc := 11) d_AS_init_11 rfl 1 rfl ?_
  refine g_newarray (pc := 12) (kd := 21) (N := 16) d_AS_init_12 ⟨by decide, by decide⟩ rfl ac_b (by decide) (by decide) (by decide) (fun u hu => ?_)
  obtain ⟨n_ua, z_u⟩ := fresh_new (by decide) hu
  refine g_putR (pc := 14) (ci := 8) (f := 0) rfl d_AS_init_14 fl_AS_15 (fun q hq => by cases hq; exact rfl) rfl rfl (by decide) (by simp [hK_sR9, hL_sR9, hI_sR9, hK_sI9, hL_sI9, hR_sI9, hK_new, hL_new, hI_new, hR_new, hR_sR, Ne.symm n_ua]) ?_
  refine g_aload_n (pc := 17) d_AS_init_17 rfl 0 rfl ?_
  refine g_iconst (pc := 18) (v := 0) d_AS_init_18 (by decide) ?_
  refine g_putI (pc := 19) (ci := 8) (f := 1) rfl d_AS_init_19 fl_AS_22 (fun q hq => by cases hq; exact rfl) rfl rfl (by decide) (by simp [hK_sR9, hL_sR9, hI_sR9, hK_sI9, hL_sI9, hR_sI9, hK_new, hL_new, hI_new, hR_new, hR_sR, Ne.symm n_ua]) ?_
  refine g_goto (pc := 22) (tgt := 38) d_AS_init_22 (by decide) ?_
  refine g_vret (pc := 38) d_AS_init_38 rfl ?_
  have e1 : Ext h0 (sR (hNew (hNew h0 a 9 0) u 21 16) a 0 (some u)) := ((Ext.r.new ha).new hu).sR ha
  refine ⟨rfl, fun q hq => ?_, ⟨u, ?_, ?_, ?_⟩, ?_⟩
  · have qa : q ≠ a := fun z => hq (by rw [z]; exact ha)
    obtain ⟨y1, y2, y3, y4, y5⟩ := e1 q hq
    refine ⟨funext fun j => ?_, y2, y3, y4, y5⟩
    rw [hI_sI, if_neg (fun z => qa z.1)]
    exact congrFun y1 j
  · refine ⟨?_, ?_, ?_, ?_⟩ <;> simp [hK_sR9, hL_sR9, hI_sR9, hK_sI9, hL_sI9, hR_sI9, hK_new, hL_new, hI_new, hR_new, hR_sR, n_ua, Ne.symm n_ua]
  · exact (Fr.nil.cons z_u (by simp)).cons ha (by simp [Ne.symm n_ua])
  · funext j
    simp [hI_sI, hK_sR9, hL_sR9, hI_sR9, hK_sI9, hL_sI9, hR_sI9, hK_new, hL_new, hI_new, hR_new, hR_sR, n_ua, Ne.symm n_ua]
  · funext j
    simp [hI_sI, hK_sR9, hL_sR9, hI_sR9, hK_sI9, hL_sI9, hR_sI9, hK_new, hL_new, hI_new, hR_new, hR_sR, Ne.symm n_ua]
theorem cq_SB_init {E : En} {h0 : Hp} {a : Nat} (ha : hK h0 a = 0) : CT E m_SB_init [.ref a] (hNew h0 a 9 0) 1 16 (fun v h1 => v = none ∧ Ext h0 h1 ∧ (∃ vb, SbOk h1 a vb ∧ Fr h0 [a, vb] ∧ hI h1 vb = fun _ => 0) ∧ hI h1 a = fun _ => 0) noX := by
  refine ct_of rfl (by decide +kernel) (Nat.le_of_ble_eq_true rfl) ?_
  show G E m_SB_init 0 [(0, .ref a)] [] (hNew h0 a 9 0) (0 + 1) (0 + 16) _ noX
  refine g_aload_n (pc := 0) d_SB_init_0 rfl 0 rfl ?_
  refine g_bipush (pc := 1) (v := 16) d_SB_init_1 (by decide) ?_
  refine g_callI (kz := 1) (nz := 16) (pc := 3) (As := [.int _]) (b := a) d_SB_init_3 rfl mi_AS_init st_SB_init_1 rfl rfl (Nat.le_of_ble_eq_true rfl) (cq_AS_init ha) (fun _ _ z => z.elim) (fun v h1 z => ?_)
  obtain ⟨rfl, z2⟩ := z
  refine g_vret (pc := 6) d_SB_init_6 rfl ?_
  exact ⟨rfl, z2⟩
theorem SbY.nil {h0 h1 : Hp} {a : Nat} (e : Ext h0 h1) (z : (∃ vb, SbOk h1 a vb ∧ Fr h0 [a, vb] ∧ hI h1 vb = fun _ => 0) ∧ hI h1 a = fun _ => 0) : SbY h0 h1 a [] 0 := by
  obtain ⟨⟨vb, ⟨s1, s2, s3, s4⟩, f, e0⟩, ea⟩ := z
  refine ⟨e, f.2 a List.mem_cons_self, vb, 16, fun _ => 0, f.2 vb (List.mem_cons_of_mem _ List.mem_cons_self), ⟨s1, s2, by rw [ea], by rw [ea]; rfl, s3, s4, e0⟩, by decide, by decide, by decide, by decide, fun j _ => ⟨0, by decide, rfl⟩, fun j hj => absurd hj (Nat.not_lt_zero j)⟩
