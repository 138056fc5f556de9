/-! THE JDK: StringBuilder, what its methods do while 16 bytes are enough -/
theorem g_dup_x1 {E : En} {M : Mt} {pc : Nat} {lv : List (Nat × Value)} {st : List Value} {h : Hp} {k n : Nat} {P : Option Value → Hp → Prop} {X : String → Hp → Prop} {v w : Value} (hd : decode (mC M) pc = .ok (.dup_x1, 1)) (hv : v.category = 1) (hw : w.category = 1)
    (kk : G E M (pc + 1) lv (v :: w :: v :: st) h k n P X) : G E M pc lv (v :: w :: st) h k n P X := by
  intro p e R s m args below meth c H locs cells slots ls C r h1 h2 hl
  exact lv_dup_x1 C.1 C.2.1 hd hv hw (kk p e R s m args below meth c H locs cells slots ls C r h1 h2 hl)
theorem g_blen {E : En} {M : Mt} {pc : Nat} {lv : List (Nat × Value)} {st : List Value} {h : Hp} {k n a len : Nat} {P : Option Value → Hp → Prop} {X : String → Hp → Prop} (hd : decode (mC M) pc = .ok (.arraylength, 1)) (hk : hK h a = 21) (hl : hL h a = len)
    (kk : G E M (pc + 1) lv (.int (nI len) :: st) h k n P X) : G E M pc lv (.ref a :: st) h k n P X := by
  intro p e R s m args below meth c H locs cells slots ls C r h1 h2 hls
  subst hl
  obtain ⟨cA, c1, c2, c3⟩ := r.arr hk (by omega)
  have c3 : H[a]? = some (arrV cA (hL h a) (fun j => .int (hI h a j))) := c3
  exact W.alen (n := nI (hL h a)) C.1 C.2.1 c3 (c1 (hL h a) (fun j => .int (hI h a j))) (by rw [arrV_size] <;> rfl) rfl rfl hd (kk p e R s m args below meth c H locs cells slots ls C r h1 h2 hls)
def SbOk (h : Hp) (so vb : Nat) : Prop := hK h so = 9 ∧ hR h so 0 = some vb ∧ hK h vb = 21 ∧ hL h vb = 16
theorem le16 : ∀ q, q ≤ 16 → nI q - nI 16 ≤ 0 := by decide
set_option maxRecDepth 20000 in
theorem cz_AS_isLatin1 {E : En} {h : Hp} {so vb cnt : Nat} {c T : Nat → Int32} {R : List (Nat × (Nat → Int32))} (hS : SbOk h so vb) (nd : (so :: vb :: R.map Prod.fst).Nodup) (hc1 : c 1 = 0) : CR E m_AS_isLatin1 [.ref so] (wL h ((so, c) :: (vb, T) :: R)) (some (.int 1)) (wL h ((so, c) :: (vb, T) :: R)) := by
  refine ct_of rfl (by decide +kernel) (Nat.le_of_ble_eq_true rfl) ?_
  show G E m_AS_isLatin1 0 [(0, .ref so)] [] (wL h ((so, c) :: (vb, T) :: R)) 0 0 _ noX
  obtain ⟨k_so, r_so_0, k_vb, l_vb⟩ := id hS
  refine g_gets (pc := 0) d_AS_isLatin1_0 4 rfl (tg_2 51 rfl rfl) ?_
  show G E m_AS_isLatin1 3 _ [.int 1] _ _ _ _ _
  refine g_if_eq (pc := 3) (tgt := 17) d_AS_isLatin1_3 (by decide) (fun c_3 => ?_) (fun c_3 => ?_)
  · exact absurd c_3 (by decide)
  · skip
    refine g_aload_n (pc := 6) d_AS_isLatin1_6 rfl 0 rfl ?_
    refine g_lgI0 (pc := 7) (ci := 8) (f := 1) rfl d_AS_isLatin1_7 fl_AS_22 (by decide) k_so nd ?_
    refine g_if_ne (pc := 10) (tgt := 17) d_AS_isLatin1_10 (by decide) (fun c_10 => ?_) (fun c_10 => ?_)
    · exact absurd hc1 c_10
    · skip
      refine g_iconst (pc := 13) (v := 1) d_AS_isLatin1_13 (by decide) ?_
      refine g_goto (pc := 14) (tgt := 18) d_AS_isLatin1_14 (by decide) ?_
      refine g_zret (pc := 18) d_AS_isLatin1_18 rfl (by first | rfl | exact nar_bI _) ?_
      exact ⟨rfl, rfl⟩
set_option maxRecDepth 20000 in
theorem cz_AS_ensure {E : En} {h : Hp} {so vb cnt : Nat} {c T : Nat → Int32} {R : List (Nat × (Nat → Int32))} {q : Nat} (hS : SbOk h so vb) (nd : (so :: vb :: R.map Prod.fst).Nodup) (hc1 : c 1 = 0) (hq : q ≤ 16) : CR E m_AS_ensure [.ref so, .int (nI q)] (wL h ((so, c) :: (vb, T) :: R)) (none) (wL h ((so, c) :: (vb, T) :: R)) := by
  refine ct_of rfl (by decide +kernel) (Nat.le_of_ble_eq_true rfl) ?_
  show G E m_AS_ensure 0 [(0, .ref so), (1, .int (nI q))] [] (wL h ((so, c) :: (vb, T) :: R)) 0 0 _ noX
  obtain ⟨k_so, r_so_0, k_vb, l_vb⟩ := id hS
  refine g_aload_n (pc := 0) d_AS_ensure_0 rfl 0 rfl ?_
  refine g_getR (pc := 1) (ci := 8) (f := 0) (b := vb) rfl r_so_0 d_AS_ensure_1 fl_AS_15 (by decide) k_so ?_
  refine g_blen (pc := 4) d_AS_ensure_4 k_vb l_vb ?_
  refine g_aload_n (pc := 5) d_AS_ensure_5 rfl 0 rfl ?_
  refine g_lgI0 (pc := 6) (ci := 8) (f := 1) rfl d_AS_ensure_6 fl_AS_22 (by decide) k_so nd ?_
  refine g_top hc1 ?_
  refine g_ishr (pc := 9) d_AS_ensure_9 ?_
  refine g_top (y := nI 16) rfl ?_
  refine g_istore_n (pc := 10) (lv' := [(2, .int (nI 16)), (0, .ref so), (1, .int (nI q))]) d_AS_ensure_10 rfl (by decide) rfl ?_
  refine g_iload_n (pc := 11) d_AS_ensure_11 rfl 2 rfl ?_
  refine g_iload_n (pc := 12) d_AS_ensure_12 rfl 0 rfl ?_
  refine g_isub (pc := 13) d_AS_ensure_13 ?_
  refine g_if_le (pc := 14) (tgt := 38) d_AS_ensure_14 (by decide) (fun c_14 => ?_) (fun c_14 => ?_)
  · skip
    refine g_vret (pc := 38) d_AS_ensure_38 rfl ?_
    exact ⟨rfl, rfl⟩
  · exact absurd (le16 q hq) c_14
set_option maxRecDepth 20000 in
theorem cz_AS_length {E : En} {h : Hp} {so vb cnt : Nat} {c T : Nat → Int32} {R : List (Nat × (Nat → Int32))} (hS : SbOk h so vb) (nd : (so :: vb :: R.map Prod.fst).Nodup) (hc1 : c 1 = 0) (hc2 : c 2 = nI cnt) : CR E m_AS_length [.ref so] (wL h ((so, c) :: (vb, T) :: R)) (some (.int (nI cnt))) (wL h ((so, c) :: (vb, T) :: R)) := by
  refine ct_of rfl (by decide +kernel) (Nat.le_of_ble_eq_true rfl) ?_
  show G E m_AS_length 0 [(0, .ref so)] [] (wL h ((so, c) :: (vb, T) :: R)) 0 0 _ noX
  obtain ⟨k_so, r_so_0, k_vb, l_vb⟩ := id hS
  refine g_aload_n (pc := 0) d_AS_length_0 rfl 0 rfl ?_
  refine g_lgI0 (pc := 1) (ci := 8) (f := 2) rfl d_AS_length_1 fl_AS_79 (by decide) k_so nd ?_
  refine g_top hc2 ?_
  refine g_iret (pc := 4) d_AS_length_4 rfl ?_
  exact ⟨rfl, rfl⟩
set_option maxRecDepth 20000 in
theorem cz_SB_length {E : En} {h : Hp} {so vb cnt : Nat} {c T : Nat → Int32} {R : List (Nat × (Nat → Int32))} (hS : SbOk h so vb) (nd : (so :: vb :: R.map Prod.fst).Nodup) (hc1 : c 1 = 0) (hc2 : c 2 = nI cnt) : CR E m_SB_length [.ref so] (wL h ((so, c) :: (vb, T) :: R)) (some (.int (nI cnt))) (wL h ((so, c) :: (vb, T) :: R)) := by
  refine ct_of rfl (by decide +kernel) (Nat.le_of_ble_eq_true rfl) ?_
  show G E m_SB_length 0 [(0, .ref so)] [] (wL h ((so, c) :: (vb, T) :: R)) 0 0 _ noX
  obtain ⟨k_so, r_so_0, k_vb, l_vb⟩ := id hS
  refine g_aload_n (pc := 0) d_SB_length_0 rfl 0 rfl ?_
  refine g_callSU (k := 0) (n := 0) (kz := 0) (nz := 0) (pc := 1) (b := so) (As := []) d_SB_length_1 rfl rfl mu_AS_length st_SB_length_343 k_so rfl rfl (Nat.le_of_ble_eq_true rfl) (cz_AS_length hS nd hc1 hc2) (fun _ _ z => z.elim) (fun v h1 z => ?_)
  obtain ⟨rfl, rfl⟩ := z
  refine g_iret (pc := 4) d_SB_length_4 rfl ?_
  exact ⟨rfl, rfl⟩
set_option maxRecDepth 20000 in
theorem cz_AS_setLength {E : En} {h : Hp} {so vb cnt : Nat} {c T : Nat → Int32} {R : List (Nat × (Nat → Int32))} (hS : SbOk h so vb) (nd : (so :: vb :: R.map Prod.fst).Nodup) (hc1 : c 1 = 0) (hc2 : c 2 = nI cnt) (hk : cnt ≤ 16) : CT E m_AS_setLength [.ref so, .int (nI 0)] (wL h ((so, c) :: (vb, T) :: R)) 0 0 (fun v h9 => v = none ∧ ∃ c9 : Nat → Int32, c9 1 = 0 ∧ c9 2 = nI 0 ∧ h9 = wL h ((so, c9) :: (vb, T) :: R)) noX := by
  refine ct_of rfl (by decide +kernel) (Nat.le_of_ble_eq_true rfl) ?_
  show G E m_AS_setLength 0 [(0, .ref so), (1, .int (nI 0))] [] (wL h ((so, c) :: (vb, T) :: R)) 0 0 _ noX
  obtain ⟨k_so, r_so_0, k_vb, l_vb⟩ := id hS
  refine g_iload_n (pc := 0) d_AS_setLength_0 rfl 1 rfl ?_
  refine g_if_ge (pc := 1) (tgt := 13) d_AS_setLength_1 (by decide) (fun c_1 => ?_) (fun c_1 => ?_)
  · skip
    refine g_aload_n (pc := 13) d_AS_setLength_13 rfl 0 rfl ?_
    refine g_iload_n (pc := 14) d_AS_setLength_14 rfl 1 rfl ?_
    refine g_callVA (k := 0) (n := 0) (kz := 0) (nz := 0) (pc := 15) (b := so) (As := [.int _]) d_AS_setLength_15 rfl mp_AS_ensure st_AS_setLength_100 sel_AS_ensure k_so rfl rfl (Nat.le_of_ble_eq_true rfl) (cz_AS_ensure (cnt := 0) (q := 0) hS nd hc1 (by omega)) (fun _ _ z => z.elim) (fun v h1 z => ?_)
    obtain ⟨rfl, rfl⟩ := z
    refine g_aload_n (pc := 18) d_AS_setLength_18 rfl 0 rfl ?_
    refine g_lgI0 (pc := 19) (ci := 8) (f := 2) rfl d_AS_setLength_19 fl_AS_79 (by decide) k_so nd ?_
    refine g_top hc2 ?_
    refine g_iload_n (pc := 22) d_AS_setLength_22 rfl 1 rfl ?_
    refine g_icmp_ge (pc := 23) (tgt := 63) d_AS_setLength_23 (by decide) (fun c_23 => ?_) (fun c_23 => ?_)
    · skip
      refine g_aload_n (pc := 63) d_AS_setLength_63 rfl 0 rfl ?_
      refine g_lgI0 (pc := 64) (ci := 8) (f := 2) rfl d_AS_setLength_64 fl_AS_79 (by decide) k_so nd ?_
      refine g_top hc2 ?_
      refine g_iload_n (pc := 67) d_AS_setLength_67 rfl 1 rfl ?_
      refine g_icmp_le (pc := 68) (tgt := 76) d_AS_setLength_68 (by decide) (fun c_68 => ?_) (fun c_68 => ?_)
      · skip
        refine g_aload_n (pc := 76) d_AS_setLength_76 rfl 0 rfl ?_
        refine g_iload_n (pc := 77) d_AS_setLength_77 rfl 1 rfl ?_
        refine g_lpI0 (pc := 78) (ci := 8) (f := 2) rfl d_AS_setLength_78 fl_AS_79 (fun q hq => by cases hq; exact rfl) rfl rfl (by decide) k_so nd ?_
        refine g_vret (pc := 81) d_AS_setLength_81 rfl ?_
        refine ⟨rfl, _, ?_, ?_, rfl⟩
        · first | exact hc1 | (rw [u1_ne (by omega)]; exact hc1) | (rw [u1_ne (by omega), u1_ne (by omega)]; exact hc1)
        · exact u1_same _ _ _
      · skip
        refine g_aload_n (pc := 71) d_AS_setLength_71 rfl 0 rfl ?_
        refine g_iconst (pc := 72) (v := 1) d_AS_setLength_72 (by decide) ?_
        refine g_lpI0 (pc := 73) (ci := 8) (f := 3) rfl d_AS_setLength_73 fl_AS_73 (fun q hq => by cases hq; exact rfl) (by rfl) (by rfl) (by decide) k_so nd ?_
        refine g_aload_n (pc := 76) d_AS_setLength_76 rfl 0 rfl ?_
        refine g_iload_n (pc := 77) d_AS_setLength_77 rfl 1 rfl ?_
        refine g_lpI0 (pc := 78) (ci := 8) (f := 2) rfl d_AS_setLength_78 fl_AS_79 (fun q hq => by cases hq; exact rfl) rfl rfl (by decide) k_so nd ?_
        refine g_vret (pc := 81) d_AS_setLength_81 rfl ?_
        refine ⟨rfl, _, ?_, ?_, rfl⟩
        · first | exact hc1 | (rw [u1_ne (by omega)]; exact hc1) | (rw [u1_ne (by omega), u1_ne (by omega)]; exact hc1)
        · exact u1_same _ _ _
    · exact absurd ((nI_leI (a := 0) (b := cnt) (by omega) (by omega)).mpr (Nat.zero_le _)) c_23
  · exact absurd (by decide) c_1
set_option maxRecDepth 20000 in
theorem cz_SB_setLength {E : En} {h : Hp} {so vb cnt : Nat} {c T : Nat → Int32} {R : List (Nat × (Nat → Int32))} (hS : SbOk h so vb) (nd : (so :: vb :: R.map Prod.fst).Nodup) (hc1 : c 1 = 0) (hc2 : c 2 = nI cnt) (hk : cnt ≤ 16) : CT E m_SB_setLength [.ref so, .int (nI 0)] (wL h ((so, c) :: (vb, T) :: R)) 0 0 (fun v h9 => v = none ∧ ∃ c9 : Nat → Int32, c9 1 = 0 ∧ c9 2 = nI 0 ∧ h9 = wL h ((so, c9) :: (vb, T) :: R)) noX := by
  refine ct_of rfl (by decide +kernel) (Nat.le_of_ble_eq_true rfl) ?_
  show G E m_SB_setLength 0 [(0, .ref so), (1, .int (nI 0))] [] (wL h ((so, c) :: (vb, T) :: R)) 0 0 _ noX
  obtain ⟨k_so, r_so_0, k_vb, l_vb⟩ := id hS
  refine g_aload_n (pc := 0) d_SB_setLength_0 rfl 0 rfl ?_
  refine g_iload_n (pc := 1) d_SB_setLength_1 rfl 1 rfl ?_
  refine g_callSU (k := 0) (n := 0) (kz := 0) (nz := 0) (pc := 2) (b := so) (As := [.int _]) d_SB_setLength_2 rfl rfl mu_AS_setLength st_SB_setLength_333 k_so rfl rfl (Nat.le_of_ble_eq_true rfl) (cz_AS_setLength hS nd hc1 hc2 hk) (fun _ _ z => z.elim) (fun v h1 z => ?_)
  obtain ⟨rfl, c9, hd1, hd2, rfl⟩ := z
  refine g_vret (pc := 5) d_SB_setLength_5 rfl ?_
  exact ⟨rfl, c9, hd1, hd2, rfl⟩
set_option maxRecDepth 20000 in
theorem cz_SL_canEncode {E : En} {h : Hp} {b : Nat} (hb : b < 128) : CR E m_SL_canEncode [.int (nI b)] h (some (.int 1)) (h) := by
  refine ct_of rfl (by decide +kernel) (Nat.le_of_ble_eq_true rfl) ?_
  show G E m_SL_canEncode 0 [(0, .int (nI b))] [] h 0 0 _ noX
  refine g_iload_n (pc := 0) d_SL_canEncode_0 rfl 0 rfl ?_
  refine g_sipush (pc := 1) (v := 255) d_SL_canEncode_1 (by decide) ?_
  refine g_icmp_gt (pc := 4) (tgt := 11) d_SL_canEncode_4 (by decide) (fun c_4 => ?_) (fun c_4 => ?_)
  · exact absurd ((nI_ltI (a := 255) (b := b) (by omega) (by omega)).mp c_4) (by omega)
  · skip
    refine g_iconst (pc := 7) (v := 1) d_SL_canEncode_7 (by decide) ?_
    refine g_goto (pc := 8) (tgt := 12) d_SL_canEncode_8 (by decide) ?_
    refine g_zret (pc := 12) d_SL_canEncode_12 rfl (by first | rfl | exact nar_bI _) ?_
    exact ⟨rfl, rfl⟩
set_option maxRecDepth 20000 in
theorem cz_AS_appendC {E : En} {h : Hp} {so vb cnt : Nat} {c T : Nat → Int32} {R : List (Nat × (Nat → Int32))} {b : Nat} (hS : SbOk h so vb) (nd : (so :: vb :: R.map Prod.fst).Nodup) (hc1 : c 1 = 0) (hc2 : c 2 = nI cnt) (hk : cnt < 16) (hb : b < 128) : CT E m_AS_appendC [.ref so, .int (nI b)] (wL h ((so, c) :: (vb, T) :: R)) 0 0 (fun v h9 => v = some (.ref so) ∧ ∃ c9 : Nat → Int32, c9 1 = 0 ∧ c9 2 = nI (cnt + 1) ∧ h9 = wL h ((so, c9) :: (vb, (u1 T cnt (nI b))) :: R)) noX := by
  refine ct_of rfl (by decide +kernel) (Nat.le_of_ble_eq_true rfl) ?_
  show G E m_AS_appendC 0 [(0, .ref so), (1, .int (nI b))] [] (wL h ((so, c) :: (vb, T) :: R)) 0 0 _ noX
  obtain ⟨k_so, r_so_0, k_vb, l_vb⟩ := id hS
  refine g_aload_n (pc := 0) d_AS_appendC_0 rfl 0 rfl ?_
  refine g_aload_n (pc := 1) d_AS_appendC_1 rfl 0 rfl ?_
  refine g_lgI0 (pc := 2) (ci := 8) (f := 2) rfl d_AS_appendC_2 fl_AS_79 (by decide) k_so nd ?_
  refine g_top hc2 ?_
  refine g_iconst (pc := 5) (v := 1) d_AS_appendC_5 (by decide) ?_
  refine g_iadd (pc := 6) d_AS_appendC_6 ?_
  refine g_top (y := nI (cnt + 1)) (nI_1 cnt) ?_
  refine g_callVA (k := 0) (n := 0) (kz := 0) (nz := 0) (pc := 7) (b := so) (As := [.int _]) d_AS_appendC_7 rfl mp_AS_ensure st_AS_appendC_100 sel_AS_ensure k_so rfl rfl (Nat.le_of_ble_eq_true rfl) (cz_AS_ensure (cnt := 0) (q := cnt + 1) hS nd hc1 (by omega)) (fun _ _ z => z.elim) (fun v h1 z => ?_)
  obtain ⟨rfl, rfl⟩ := z
  refine g_aload_n (pc := 10) d_AS_appendC_10 rfl 0 rfl ?_
  refine g_callVA (k := 0) (n := 0) (kz := 0) (nz := 0) (pc := 11) (b := so) (As := []) d_AS_appendC_11 rfl mp_AS_isLatin1 st_AS_appendC_83 sel_AS_isLatin1 k_so rfl rfl (Nat.le_of_ble_eq_true rfl) (cz_AS_isLatin1 (cnt := 0) hS nd hc1) (fun _ _ z => z.elim) (fun v h1 z => ?_)
  obtain ⟨rfl, rfl⟩ := z
  refine g_if_eq (pc := 14) (tgt := 45) d_AS_appendC_14 (by decide) (fun c_14 => ?_) (fun c_14 => ?_)
  · exact absurd c_14 (by decide)
  · skip
    refine g_iload_n (pc := 17) d_AS_appendC_17 rfl 1 rfl ?_
    refine g_cS1 (pc := 18) (As := [.int _]) d_AS_appendC_18 rfl ms_SL_canEncode st_AS_appendC_191 rfl rfl (Nat.le_of_ble_eq_true rfl) (cz_SL_canEncode hb) ?_
    refine g_if_eq (pc := 21) (tgt := 45) d_AS_appendC_21 (by decide) (fun c_21 => ?_) (fun c_21 => ?_)
    · exact absurd c_21 (by decide)
    · skip
      refine g_aload_n (pc := 24) d_AS_appendC_24 rfl 0 rfl ?_
      refine g_getR (pc := 25) (ci := 8) (f := 0) (b := vb) rfl r_so_0 d_AS_appendC_25 fl_AS_15 (by decide) k_so ?_
      refine g_aload_n (pc := 28) d_AS_appendC_28 rfl 0 rfl ?_
      refine g_dup (pc := 29) d_AS_appendC_29 rfl ?_
      refine g_lgI0 (pc := 30) (ci := 8) (f := 2) rfl d_AS_appendC_30 fl_AS_79 (by decide) k_so nd ?_
      refine g_top hc2 ?_
      refine g_dup_x1 (pc := 33) d_AS_appendC_33 rfl rfl ?_
      refine g_iconst (pc := 34) (v := 1) d_AS_appendC_34 (by decide) ?_
      refine g_iadd (pc := 35) d_AS_appendC_35 ?_
      refine g_top (y := nI (cnt + 1)) (nI_1 cnt) ?_
      refine g_lpI0 (pc := 36) (ci := 8) (f := 2) rfl d_AS_appendC_36 fl_AS_79 (fun q hq => by cases hq; exact rfl) rfl rfl (by decide) k_so nd ?_
      refine g_iload_n (pc := 39) d_AS_appendC_39 rfl 1 rfl ?_
      refine g_i2b (pc := 40) d_AS_appendC_40 ?_
      refine g_lbs1 (pc := 41) (j := cnt) d_AS_appendC_41 k_vb l_vb (by first | assumption | omega | decide) (by decide) nd ?_
      refine g_goto (pc := 42) (tgt := 75) d_AS_appendC_42 (by decide) ?_
      refine g_aload_n (pc := 75) d_AS_appendC_75 rfl 0 rfl ?_
      refine g_aret (pc := 76) d_AS_appendC_76 rfl (by first | exact Or.inl ⟨_, rfl⟩ | exact Or.inr ⟨_, rfl⟩) ?_
      refine ⟨rfl, u1 c 2 (nI (cnt + 1)), ?_, u1_same _ _ _, ?_⟩
      · rw [u1_ne (by omega)]; exact hc1
      · rw [nar_small hb]
set_option maxRecDepth 20000 in
theorem cz_SB_appendC {E : En} {h : Hp} {so vb cnt : Nat} {c T : Nat → Int32} {R : List (Nat × (Nat → Int32))} {b : Nat} (hS : SbOk h so vb) (nd : (so :: vb :: R.map Prod.fst).Nodup) (hc1 : c 1 = 0) (hc2 : c 2 = nI cnt) (hk : cnt < 16) (hb : b < 128) : CT E m_SB_appendC [.ref so, .int (nI b)] (wL h ((so, c) :: (vb, T) :: R)) 0 0 (fun v h9 => v = some (.ref so) ∧ ∃ c9 : Nat → Int32, c9 1 = 0 ∧ c9 2 = nI (cnt + 1) ∧ h9 = wL h ((so, c9) :: (vb, (u1 T cnt (nI b))) :: R)) noX := by
  refine ct_of rfl (by decide +kernel) (Nat.le_of_ble_eq_true rfl) ?_
  show G E m_SB_appendC 0 [(0, .ref so), (1, .int (nI b))] [] (wL h ((so, c) :: (vb, T) :: R)) 0 0 _ noX
  obtain ⟨k_so, r_so_0, k_vb, l_vb⟩ := id hS
  refine g_aload_n (pc := 0) d_SB_appendC_0 rfl 0 rfl ?_
  refine g_iload_n (pc := 1) d_SB_appendC_1 rfl 1 rfl ?_
  refine g_callSU (k := 0) (n := 0) (kz := 0) (nz := 0) (pc := 2) (b := so) (As := [.int _]) d_SB_appendC_2 rfl rfl mu_AS_appendC st_SB_appendC_50 k_so rfl rfl (Nat.le_of_ble_eq_true rfl) (cz_AS_appendC hS nd hc1 hc2 hk hb) (fun _ _ z => z.elim) (fun v h1 z => ?_)
  obtain ⟨rfl, c9, hd1, hd2, rfl⟩ := z
  refine g_pop (pc := 5) d_SB_appendC_5 rfl ?_
  refine g_aload_n (pc := 6) d_SB_appendC_6 rfl 0 rfl ?_
  refine g_aret (pc := 7) d_SB_appendC_7 rfl (by first | exact Or.inl ⟨_, rfl⟩ | exact Or.inr ⟨_, rfl⟩) ?_
  exact ⟨rfl, c9, hd1, hd2, rfl⟩
