/-! THE CLASS'S OUTPUT: append(int), charAt, writeShop, outputByte -/
def sgn (p : Int32) : List Int32 := if p < 0 then [45] else []
def dgt (p : Int32) : List Int32 := sgn p ++ dgF p.toInt.natAbs (dgL p.toInt.natAbs)
theorem dgt_len (p : Int32) : (dgt p).length = (if p < 0 then [(45 : Int32)] else []).length + dgL p.toInt.natAbs := by unfold dgt sgn; rw [List.length_append, dgF_len]
theorem dgt_le (p : Int32) : (dgt p).length ≤ 11 := by
  have h := dgL_le p.toInt.natAbs
  have a1 : (if p < 0 then [(45 : Int32)] else []).length ≤ 1 := by split <;> simp
  rw [dgt_len]; omega
theorem dgt_size (p : Int32) : nI (dgL p.toInt.natAbs + if p < 0 then 1 else 0) = nI (dgt p).length := by
  congr 1
  rw [dgt_len]
  split <;> simp <;> omega
theorem b255 : ∀ b, b < 128 → nI b &&& 255 = nI b := by decide +kernel
theorem b_i2c : ∀ b, b < 128 → ((nI b).toUInt32 % 65536).toInt32 = nI b := by decide +kernel
theorem b_nar : ∀ b, b < 128 → narrow .char (.int (nI b)) = .int (nI b) := by decide +kernel
theorem wLB {h : Hp} {b so vb : Nat} {B : Bu} {c T : Nat → Int32} (f1 : Fo h b so) (f2 : Fo h b vb) : wB (wL h [(so, c), (vb, T)]) b B = wL (wB h b B) [(so, c), (vb, T)] := by
  refine wB_wL (fun q hq => ?_)
  simp only [List.map_cons, List.map_nil, List.mem_cons, List.not_mem_nil, or_false] at hq
  rcases hq with rfl | rfl
  · exact f1
  · exact f2
theorem txt_is (p : Int32) (t s o : Bool) : txt p t s o = dgt p ++ ((if t = true then [116] else [102]) ++ ((if s = true then [115] else []) ++ (if o = true then [] else [120]))) := by unfold txt dgt sgn; simp only [List.append_assoc]
set_option maxRecDepth 20000 in
theorem cz_AS_appendI {E : En} {h : Hp} {so vb cnt : Nat} {c T : Nat → Int32} {R : List (Nat × (Nat → Int32))} {p : Int32} (hS : SbOk h so vb) (nd : (so :: vb :: R.map Prod.fst).Nodup) (hc1 : c 1 = 0) (hc2 : c 2 = nI 0) (hp : -2147483648 < p.toInt) : CT E m_AS_appendI [.ref so, .int p] (wL h ((so, c) :: (vb, T) :: R)) 0 0 (fun v h9 => v = some (.ref so) ∧ ∃ c9 : Nat → Int32, c9 1 = 0 ∧ c9 2 = nI (dgt p).length ∧ h9 = wL h ((so, c9) :: (vb, (Wr T (dgt p))) :: R)) noX := by
  refine ct_of rfl (by decide +kernel) (Nat.le_of_ble_eq_true rfl) ?_
  show G E m_AS_appendI 0 [(0, .ref so), (1, .int p)] [] (wL h ((so, c) :: (vb, T) :: R)) 0 0 _ noX
  obtain ⟨k_so, r_so_0, k_vb, l_vb⟩ := id hS
  refine g_aload_n (pc := 0) d_AS_appendI_0 rfl 0 rfl ?_
  refine g_lgI0 (pc := 1) (ci := 8) (f := 2) rfl d_AS_appendI_1 fl_AS_79 (by decide) k_so nd ?_
  refine g_top hc2 ?_
  refine g_istore_n (pc := 4) (lv' := [(2, .int (nI 0)), (0, .ref so), (1, .int p)]) d_AS_appendI_4 rfl (by decide) rfl ?_
  refine g_iload_n (pc := 5) d_AS_appendI_5 rfl 0 rfl ?_
  refine g_iload_n (pc := 6) d_AS_appendI_6 rfl 2 rfl ?_
  refine g_cS1 (pc := 7) (As := [.int _]) d_AS_appendI_7 rfl ms_IT_stringSize st_AS_appendI_245 rfl rfl (Nat.le_of_ble_eq_true rfl) (ct_IT_stringSize hp) ?_
  refine g_top (dgt_size p) ?_
  refine g_iadd (pc := 10) d_AS_appendI_10 ?_
  refine g_top (y := nI (dgt p).length) (by rw [nI_0, Int32.zero_add]) ?_
  refine g_istore_n (pc := 11) (lv' := [(3, .int (nI (dgt p).length)), (2, .int (nI 0)), (0, .ref so), (1, .int p)]) d_AS_appendI_11 rfl (by decide) rfl ?_
  refine g_aload_n (pc := 12) d_AS_appendI_12 rfl 2 rfl ?_
  refine g_iload_n (pc := 13) d_AS_appendI_13 rfl 0 rfl ?_
  refine g_callVA (k := 0) (n := 0) (kz := 0) (nz := 0) (pc := 14) (b := so) (As := [.int _]) d_AS_appendI_14 rfl mp_AS_ensure st_AS_appendI_100 sel_AS_ensure k_so rfl rfl (Nat.le_of_ble_eq_true rfl) (cz_AS_ensure (cnt := 0) (q := (dgt p).length) hS nd hc1 (by have := dgt_le p; omega)) (fun _ _ z => z.elim) (fun v h1 z => ?_)
  obtain ⟨rfl, rfl⟩ := z
  refine g_aload_n (pc := 17) d_AS_appendI_17 rfl 2 rfl ?_
  refine g_callVA (k := 0) (n := 0) (kz := 0) (nz := 0) (pc := 18) (b := so) (As := []) d_AS_appendI_18 rfl mp_AS_isLatin1 st_AS_appendI_83 sel_AS_isLatin1 k_so rfl rfl (Nat.le_of_ble_eq_true rfl) (cz_AS_isLatin1 (cnt := 0) hS nd hc1) (fun _ _ z => z.elim) (fun v h1 z => ?_)
  obtain ⟨rfl, rfl⟩ := z
  refine g_if_eq (pc := 21) (tgt := 37) d_AS_appendI_21 (by decide) (fun c_21 => ?_) (fun c_21 => ?_)
  · exact absurd c_21 (by decide)
  · skip
    refine g_iload_n (pc := 24) d_AS_appendI_24 rfl 3 rfl ?_
    refine g_iload_n (pc := 25) d_AS_appendI_25 rfl 0 rfl ?_
    refine g_aload_n (pc := 26) d_AS_appendI_26 rfl 2 rfl ?_
    refine g_getR (pc := 27) (ci := 8) (f := 0) (b := vb) rfl r_so_0 d_AS_appendI_27 fl_AS_15 (by decide) k_so ?_
    refine g_cS1 (pc := 30) (As := [.int _, .int _, .ref _]) d_AS_appendI_30 rfl ms_IT_getChars st_AS_appendI_248 rfl rfl (Nat.le_of_ble_eq_true rfl) (by rw [dgt_len p]; exact cz_IT_getChars hS nd hp) ?_
    refine g_pop (pc := 33) d_AS_appendI_33 rfl ?_
    refine g_goto (pc := 34) (tgt := 48) d_AS_appendI_34 (by decide) ?_
    refine g_aload_n (pc := 48) d_AS_appendI_48 rfl 2 rfl ?_
    refine g_iload_n (pc := 49) d_AS_appendI_49 rfl 0 rfl ?_
    refine g_lpI0 (pc := 50) (ci := 8) (f := 2) rfl d_AS_appendI_50 fl_AS_79 (fun q hq => by cases hq; exact rfl) rfl rfl (by decide) k_so nd ?_
    refine g_aload_n (pc := 53) d_AS_appendI_53 rfl 2 rfl ?_
    refine g_aret (pc := 54) d_AS_appendI_54 rfl (by first | exact Or.inl ⟨_, rfl⟩ | exact Or.inr ⟨_, rfl⟩) ?_
    refine ⟨rfl, u1 c 2 (nI (dgt p).length), ?_, u1_same _ _ _, ?_⟩
    · rw [u1_ne (by omega)]; exact hc1
    · rw [dgt_len p]; rfl
set_option maxRecDepth 20000 in
theorem cz_SB_appendI {E : En} {h : Hp} {so vb cnt : Nat} {c T : Nat → Int32} {R : List (Nat × (Nat → Int32))} {p : Int32} (hS : SbOk h so vb) (nd : (so :: vb :: R.map Prod.fst).Nodup) (hc1 : c 1 = 0) (hc2 : c 2 = nI 0) (hp : -2147483648 < p.toInt) : CT E m_SB_appendI [.ref so, .int p] (wL h ((so, c) :: (vb, T) :: R)) 0 0 (fun v h9 => v = some (.ref so) ∧ ∃ c9 : Nat → Int32, c9 1 = 0 ∧ c9 2 = nI (dgt p).length ∧ h9 = wL h ((so, c9) :: (vb, (Wr T (dgt p))) :: R)) noX := by
  refine ct_of rfl (by decide +kernel) (Nat.le_of_ble_eq_true rfl) ?_
  show G E m_SB_appendI 0 [(0, .ref so), (1, .int p)] [] (wL h ((so, c) :: (vb, T) :: R)) 0 0 _ noX
  obtain ⟨k_so, r_so_0, k_vb, l_vb⟩ := id hS
  refine g_aload_n (pc := 0) d_SB_appendI_0 rfl 0 rfl ?_
  refine g_iload_n (pc := 1) d_SB_appendI_1 rfl 1 rfl ?_
  refine g_callSU (k := 0) (n := 0) (kz := 0) (nz := 0) (pc := 2) (b := so) (As := [.int _]) d_SB_appendI_2 rfl rfl mu_AS_appendI st_SB_appendI_53 k_so rfl rfl (Nat.le_of_ble_eq_true rfl) (cz_AS_appendI (cnt := 0) hS nd hc1 hc2 hp) (fun _ _ z => z.elim) (fun v h1 z => ?_)
  obtain ⟨rfl, c9, hd1, hd2, rfl⟩ := z
  refine g_pop (pc := 5) d_SB_appendI_5 rfl ?_
  refine g_aload_n (pc := 6) d_SB_appendI_6 rfl 0 rfl ?_
  refine g_aret (pc := 7) d_SB_appendI_7 rfl (by first | exact Or.inl ⟨_, rfl⟩ | exact Or.inr ⟨_, rfl⟩) ?_
  exact ⟨rfl, c9, hd1, hd2, rfl⟩
theorem mm_AS_charAt_138 : MM m_AS_charAt 138 Lib.Math.min.name Lib.Math.min.code 2 := ⟨tg_3 194 rfl rfl, tg_3 92 rfl rfl, tg_1 20 rfl rfl, tg_3 93 rfl rfl, by decide, by decide⟩
set_option maxRecDepth 20000 in
theorem cz_AS_charAt {E : En} {h : Hp} {so vb cnt : Nat} {c T : Nat → Int32} {R : List (Nat × (Nat → Int32))} {j b : Nat} (hS : SbOk h so vb) (nd : (so :: vb :: R.map Prod.fst).Nodup) (hc1 : c 1 = 0) (hc2 : c 2 = nI cnt) (hk : cnt ≤ 16) (hj : j < cnt) (hb : T j = nI b) (hb8 : b < 128) : CR E m_AS_charAt [.ref so, .int (nI j)] (wL h ((so, c) :: (vb, T) :: R)) (some (.int (nI b))) (wL h ((so, c) :: (vb, T) :: R)) := by
  refine ct_of rfl (by decide +kernel) (Nat.le_of_ble_eq_true rfl) ?_
  show G E m_AS_charAt 0 [(0, .ref so), (1, .int (nI j))] [] (wL h ((so, c) :: (vb, T) :: R)) 0 0 _ noX
  obtain ⟨k_so, r_so_0, k_vb, l_vb⟩ := id hS
  refine g_aload_n (pc := 0) d_AS_charAt_0 rfl 0 rfl ?_
  refine g_lgI0 (pc := 1) (ci := 8) (f := 1) rfl d_AS_charAt_1 fl_AS_22 (by decide) k_so nd ?_
  refine g_top hc1 ?_
  refine g_istore_n (pc := 4) (lv' := [(2, .int 0), (0, .ref so), (1, .int (nI j))]) d_AS_charAt_4 rfl (by decide) rfl ?_
  refine g_aload_n (pc := 5) d_AS_charAt_5 rfl 1 rfl ?_
  refine g_getR (pc := 6) (ci := 8) (f := 0) (b := vb) rfl r_so_0 d_AS_charAt_6 fl_AS_15 (by decide) k_so ?_
  refine g_astore_n (pc := 9) (lv' := [(3, .ref vb), (2, .int 0), (0, .ref so), (1, .int (nI j))]) d_AS_charAt_9 rfl (by decide) rfl ?_
  refine g_aload_n (pc := 10) d_AS_charAt_10 rfl 2 rfl ?_
  refine g_lgI0 (pc := 11) (ci := 8) (f := 2) rfl d_AS_charAt_11 fl_AS_79 (by decide) k_so nd ?_
  refine g_aload_n (pc := 14) d_AS_charAt_14 rfl 0 rfl ?_
  refine g_blen (pc := 15) d_AS_charAt_15 k_vb l_vb ?_
  refine g_iload_n (pc := 16) d_AS_charAt_16 rfl 1 rfl ?_
  refine g_ishr (pc := 17) d_AS_charAt_17 ?_
  refine g_top (y := nI 16) rfl ?_
  refine g_top2 hc2 ?_
  refine g_min (pc := 18) d_AS_charAt_18 mm_AS_charAt_138 (Nat.le_of_ble_eq_true rfl) ?_
  refine g_top (y := nI cnt) (by rw [if_neg (fun z => absurd ((nI_ltI (a := 16) (b := cnt) (by omega) (by omega)).mp z) (by omega))]) ?_
  refine g_istore (pc := 21) (lv' := [(4, .int (nI cnt)), (3, .ref vb), (2, .int 0), (0, .ref so), (1, .int (nI j))]) d_AS_charAt_21 (by decide) rfl ?_
  refine g_iload_n (pc := 23) d_AS_charAt_23 rfl 4 rfl ?_
  refine g_iload (pc := 24) d_AS_charAt_24 0 rfl ?_
  refine g_cS0 (pc := 26) (As := [.int _, .int _]) d_AS_charAt_26 rfl ms_ST_checkIndex st_AS_charAt_144 rfl rfl (Nat.le_of_ble_eq_true rfl) (ct_ST_checkIndex hj (by omega)) ?_
  refine g_iload_n (pc := 29) d_AS_charAt_29 rfl 2 rfl ?_
  refine g_if_ne (pc := 30) (tgt := 42) d_AS_charAt_30 (by decide) (fun c_30 => ?_) (fun c_30 => ?_)
  · exact (c_30 (by decide)).elim
  · skip
    refine g_aload_n (pc := 33) d_AS_charAt_33 rfl 1 rfl ?_
    refine g_iload_n (pc := 34) d_AS_charAt_34 rfl 4 rfl ?_
    refine g_lba1 (pc := 35) d_AS_charAt_35 k_vb l_vb (by omega) (by decide) nd ?_
    refine g_top hb ?_
    refine g_sipush (pc := 36) (v := 255) d_AS_charAt_36 (by decide) ?_
    refine g_iand (pc := 39) d_AS_charAt_39 ?_
    refine g_top (b255 b hb8) ?_
    refine g_i2c (pc := 40) d_AS_charAt_40 ?_
    refine g_top (b_i2c b hb8) ?_
    refine g_nret (pc := 41) d_AS_charAt_41 rfl (by exact b_nar b hb8) ?_
    exact ⟨rfl, rfl⟩
set_option maxRecDepth 20000 in
theorem cz_SB_charAt {E : En} {h : Hp} {so vb cnt : Nat} {c T : Nat → Int32} {R : List (Nat × (Nat → Int32))} {j b : Nat} (hS : SbOk h so vb) (nd : (so :: vb :: R.map Prod.fst).Nodup) (hc1 : c 1 = 0) (hc2 : c 2 = nI cnt) (hk : cnt ≤ 16) (hj : j < cnt) (hb : T j = nI b) (hb8 : b < 128) : CR E m_SB_charAt [.ref so, .int (nI j)] (wL h ((so, c) :: (vb, T) :: R)) (some (.int (nI b))) (wL h ((so, c) :: (vb, T) :: R)) := by
  refine ct_of rfl (by decide +kernel) (Nat.le_of_ble_eq_true rfl) ?_
  show G E m_SB_charAt 0 [(0, .ref so), (1, .int (nI j))] [] (wL h ((so, c) :: (vb, T) :: R)) 0 0 _ noX
  obtain ⟨k_so, r_so_0, k_vb, l_vb⟩ := id hS
  refine g_aload_n (pc := 0) d_SB_charAt_0 rfl 0 rfl ?_
  refine g_iload_n (pc := 1) d_SB_charAt_1 rfl 1 rfl ?_
  refine g_callSU (k := 0) (n := 0) (kz := 0) (nz := 0) (pc := 2) (b := so) (As := [.int _]) d_SB_charAt_2 rfl rfl mu_AS_charAt st_SB_charAt_329 k_so rfl rfl (Nat.le_of_ble_eq_true rfl) (cz_AS_charAt hS nd hc1 hc2 hk hj hb hb8) (fun _ _ z => z.elim) (fun v h1 z => ?_)
  obtain ⟨rfl, rfl⟩ := z
  refine g_nret (pc := 5) d_SB_charAt_5 rfl (by exact b_nar b hb8) ?_
  exact ⟨rfl, rfl⟩
theorem d_HS_writeShop_0 : decode (mC m_HS_writeShop) 0 = .ok (.aload_n 0, 1) := by decide +kernel
theorem d_HS_writeShop_1 : decode (mC m_HS_writeShop) 1 = .ok (.iload_n 1, 1) := by decide +kernel
theorem d_HS_writeShop_2 : decode (mC m_HS_writeShop) 2 = .ok (.invokevirtual 119, 3) := by decide +kernel
theorem d_HS_writeShop_5 : decode (mC m_HS_writeShop) 5 = .ok (.astore_n 2, 1) := by decide +kernel
theorem d_HS_writeShop_6 : decode (mC m_HS_writeShop) 6 = .ok (.aload_n 0, 1) := by decide +kernel
theorem d_HS_writeShop_7 : decode (mC m_HS_writeShop) 7 = .ok (.getfield 42, 3) := by decide +kernel
theorem d_HS_writeShop_10 : decode (mC m_HS_writeShop) 10 = .ok (.iconst 0, 1) := by decide +kernel
theorem d_HS_writeShop_11 : decode (mC m_HS_writeShop) 11 = .ok (.invokevirtual 289, 3) := by decide +kernel
theorem d_HS_writeShop_14 : decode (mC m_HS_writeShop) 14 = .ok (.aload_n 0, 1) := by decide +kernel
theorem d_HS_writeShop_15 : decode (mC m_HS_writeShop) 15 = .ok (.getfield 42, 3) := by decide +kernel
theorem d_HS_writeShop_18 : decode (mC m_HS_writeShop) 18 = .ok (.aload_n 2, 1) := by decide +kernel
theorem d_HS_writeShop_19 : decode (mC m_HS_writeShop) 19 = .ok (.getfield 144, 3) := by decide +kernel
theorem d_HS_writeShop_22 : decode (mC m_HS_writeShop) 22 = .ok (.invokevirtual 292, 3) := by decide +kernel
theorem d_HS_writeShop_25 : decode (mC m_HS_writeShop) 25 = .ok (.pop, 1) := by decide +kernel
theorem d_HS_writeShop_26 : decode (mC m_HS_writeShop) 26 = .ok (.aload_n 0, 1) := by decide +kernel
theorem d_HS_writeShop_27 : decode (mC m_HS_writeShop) 27 = .ok (.getfield 42, 3) := by decide +kernel
theorem d_HS_writeShop_30 : decode (mC m_HS_writeShop) 30 = .ok (.aload_n 0, 1) := by decide +kernel
theorem d_HS_writeShop_31 : decode (mC m_HS_writeShop) 31 = .ok (.getfield 50, 3) := by decide +kernel
theorem d_HS_writeShop_34 : decode (mC m_HS_writeShop) 34 = .ok (.aload_n 2, 1) := by decide +kernel
theorem d_HS_writeShop_35 : decode (mC m_HS_writeShop) 35 = .ok (.invokevirtual 223, 3) := by decide +kernel
theorem d_HS_writeShop_38 : decode (mC m_HS_writeShop) 38 = .ok (.ifCond .eq 8, 3) := by decide +kernel
theorem d_HS_writeShop_41 : decode (mC m_HS_writeShop) 41 = .ok (.bipush 116, 2) := by decide +kernel
theorem d_HS_writeShop_43 : decode (mC m_HS_writeShop) 43 = .ok (.goto 5, 3) := by decide +kernel
theorem d_HS_writeShop_46 : decode (mC m_HS_writeShop) 46 = .ok (.bipush 102, 2) := by decide +kernel
theorem d_HS_writeShop_48 : decode (mC m_HS_writeShop) 48 = .ok (.invokevirtual 296, 3) := by decide +kernel
theorem d_HS_writeShop_51 : decode (mC m_HS_writeShop) 51 = .ok (.pop, 1) := by decide +kernel
theorem d_HS_writeShop_52 : decode (mC m_HS_writeShop) 52 = .ok (.aload_n 2, 1) := by decide +kernel
theorem d_HS_writeShop_53 : decode (mC m_HS_writeShop) 53 = .ok (.aload_n 0, 1) := by decide +kernel
theorem d_HS_writeShop_54 : decode (mC m_HS_writeShop) 54 = .ok (.getfield 50, 3) := by decide +kernel
theorem d_HS_writeShop_57 : decode (mC m_HS_writeShop) 57 = .ok (.getfield 177, 3) := by decide +kernel
theorem d_HS_writeShop_60 : decode (mC m_HS_writeShop) 60 = .ok (.invokevirtual 233, 3) := by decide +kernel
theorem d_HS_writeShop_63 : decode (mC m_HS_writeShop) 63 = .ok (.ifCond .eq 13, 3) := by decide +kernel
theorem d_HS_writeShop_66 : decode (mC m_HS_writeShop) 66 = .ok (.aload_n 0, 1) := by decide +kernel
theorem d_HS_writeShop_67 : decode (mC m_HS_writeShop) 67 = .ok (.getfield 42, 3) := by decide +kernel
theorem d_HS_writeShop_70 : decode (mC m_HS_writeShop) 70 = .ok (.bipush 115, 2) := by decide +kernel
theorem d_HS_writeShop_72 : decode (mC m_HS_writeShop) 72 = .ok (.invokevirtual 296, 3) := by decide +kernel
theorem d_HS_writeShop_75 : decode (mC m_HS_writeShop) 75 = .ok (.pop, 1) := by decide +kernel
theorem d_HS_writeShop_76 : decode (mC m_HS_writeShop) 76 = .ok (.aload_n 2, 1) := by decide +kernel
theorem d_HS_writeShop_77 : decode (mC m_HS_writeShop) 77 = .ok (.getfield 123, 3) := by decide +kernel
theorem d_HS_writeShop_80 : decode (mC m_HS_writeShop) 80 = .ok (.ifCond .ne 13, 3) := by decide +kernel
theorem d_HS_writeShop_83 : decode (mC m_HS_writeShop) 83 = .ok (.aload_n 0, 1) := by decide +kernel
theorem d_HS_writeShop_84 : decode (mC m_HS_writeShop) 84 = .ok (.getfield 42, 3) := by decide +kernel
theorem d_HS_writeShop_87 : decode (mC m_HS_writeShop) 87 = .ok (.bipush 120, 2) := by decide +kernel
theorem d_HS_writeShop_89 : decode (mC m_HS_writeShop) 89 = .ok (.invokevirtual 296, 3) := by decide +kernel
theorem d_HS_writeShop_92 : decode (mC m_HS_writeShop) 92 = .ok (.pop, 1) := by decide +kernel
theorem d_HS_writeShop_93 : decode (mC m_HS_writeShop) 93 = .ok (.aload_n 0, 1) := by decide +kernel
theorem d_HS_writeShop_94 : decode (mC m_HS_writeShop) 94 = .ok (.getfield 42, 3) := by decide +kernel
theorem d_HS_writeShop_97 : decode (mC m_HS_writeShop) 97 = .ok (.invokevirtual 299, 3) := by decide +kernel
theorem d_HS_writeShop_100 : decode (mC m_HS_writeShop) 100 = .ok (.ireturn, 1) := by decide +kernel
theorem d_HS_outputByte_0 : decode (mC m_HS_outputByte) 0 = .ok (.iload_n 1, 1) := by decide +kernel
theorem d_HS_outputByte_1 : decode (mC m_HS_outputByte) 1 = .ok (.ifCond .lt 14, 3) := by decide +kernel
theorem d_HS_outputByte_4 : decode (mC m_HS_outputByte) 4 = .ok (.iload_n 1, 1) := by decide +kernel
theorem d_HS_outputByte_5 : decode (mC m_HS_outputByte) 5 = .ok (.aload_n 0, 1) := by decide +kernel
theorem d_HS_outputByte_6 : decode (mC m_HS_outputByte) 6 = .ok (.getfield 42, 3) := by decide +kernel
theorem d_HS_outputByte_9 : decode (mC m_HS_outputByte) 9 = .ok (.invokevirtual 299, 3) := by decide +kernel
theorem d_HS_outputByte_12 : decode (mC m_HS_outputByte) 12 = .ok (.if_icmp .lt 5, 3) := by decide +kernel
theorem d_HS_outputByte_15 : decode (mC m_HS_outputByte) 15 = .ok (.iconst (-1), 1) := by decide +kernel
theorem d_HS_outputByte_16 : decode (mC m_HS_outputByte) 16 = .ok (.ireturn, 1) := by decide +kernel
theorem d_HS_outputByte_17 : decode (mC m_HS_outputByte) 17 = .ok (.aload_n 0, 1) := by decide +kernel
theorem d_HS_outputByte_18 : decode (mC m_HS_outputByte) 18 = .ok (.getfield 42, 3) := by decide +kernel
theorem d_HS_outputByte_21 : decode (mC m_HS_outputByte) 21 = .ok (.iload_n 1, 1) := by decide +kernel
theorem d_HS_outputByte_22 : decode (mC m_HS_outputByte) 22 = .ok (.invokevirtual 301, 3) := by decide +kernel
theorem d_HS_outputByte_25 : decode (mC m_HS_outputByte) 25 = .ok (.ireturn, 1) := by decide +kernel
set_option maxRecDepth 20000 in
theorem cs_HS_writeShop {E : En} {h : Hp} {x b nw sc ni U i so vb cnt : Nat} {B : Bu} {c T : Nat → Int32} (k_x : hK h x = 1) (r_x_2 : hR h x 2 = some b) (r_x_6 : hR h x 6 = some so) (hB : BuOk h b) (hG : Gd B nw sc ni U) (hi : i < sc) (hS : SbOk h so vb) (nd : (so :: vb :: (([] : List (Nat × (Nat → Int32))).map Prod.fst)).Nodup) (f1 : Fo h b so) (f2 : Fo h b vb) (hc1 : c 1 = 0) (hc2 : c 2 = nI cnt) (hk : cnt ≤ 16) (hp : -2147483648 < (B.2.2 i 0).toInt) : CT E m_HS_writeShop [.ref x, .int (nI i)] (wB (wL h ((so, c) :: (vb, T) :: [])) b B) 0 0 (fun v h9 => v = some (.int (nI (txt (B.2.2 i 0) (decide ((M_tot B.1 B.2.1 (B.2.2 i) nw) = 0)) (M_stamped (B.2.2 i) (B.1 9)) (decide (B.2.2 i 12 ≠ 0))).length)) ∧ ∃ c9 : Nat → Int32, c9 1 = 0 ∧ c9 2 = nI (txt (B.2.2 i 0) (decide ((M_tot B.1 B.2.1 (B.2.2 i) nw) = 0)) (M_stamped (B.2.2 i) (B.1 9)) (decide (B.2.2 i 12 ≠ 0))).length ∧ h9 = wB (wL h ((so, c9) :: (vb, (Wr T (txt (B.2.2 i 0) (decide ((M_tot B.1 B.2.1 (B.2.2 i) nw) = 0)) (M_stamped (B.2.2 i) (B.1 9)) (decide (B.2.2 i 12 ≠ 0))))) :: [])) b B) noX := by
  refine ct_of rfl (by decide +kernel) (Nat.le_of_ble_eq_true rfl) ?_
  show G E m_HS_writeShop 0 [(0, .ref x), (1, .int (nI i))] [] (wB (wL h ((so, c) :: (vb, T) :: [])) b B) 0 0 _ noX
  obtain ⟨hw, hn, hs, hm, h0, hni, n3, ⟨sd, hsd, hsx⟩, hop⟩ := id hG.1
  have dl := dgt_le (B.2.2 i 0)
  have k_so : hK h so = 9 := hS.1
  refine g_aload_n (pc := 0) d_HS_writeShop_0 rfl 0 rfl ?_
  refine g_iload_n (pc := 1) d_HS_writeShop_1 rfl 1 rfl ?_
  refine g_cV1 (pc := 2) (ci := 0) (As := [.int _]) d_HS_writeShop_2 rfl mv_HS_existingShop st_HS_writeShop_119 rfl rfl (by decide) rfl rfl (Nat.le_of_ble_eq_true rfl) k_x (cs_HS_existingShop k_x r_x_2 hB hG hi) ?_
  refine g_astore_n (pc := 5) (lv' := [(2, .ref (sh h b i)), (0, .ref x), (1, .int (nI i))]) d_HS_writeShop_5 rfl (by decide) rfl ?_
  refine g_aload_n (pc := 6) d_HS_writeShop_6 rfl 1 rfl ?_
  refine g_getR (pc := 7) (ci := 0) (f := 6) (b := so) rfl r_x_6 d_HS_writeShop_7 fl_HS_42 (by decide) k_x ?_
  refine g_iconst (pc := 10) (v := 0) d_HS_writeShop_10 (by decide) ?_
  refine g_h (wLB f1 f2) ?_
  refine g_callV (k := 0) (n := 0) (kz := 0) (nz := 0) (pc := 11) (ci := 8) (As := [.int _]) d_HS_writeShop_11 rfl mv_SB_setLength st_HS_writeShop_289 rfl rfl (by decide) k_so rfl rfl (Nat.le_of_ble_eq_true rfl) (cz_SB_setLength (h := wB h b B) (R := []) hS nd hc1 hc2 hk) (fun _ _ z => z.elim) (fun v h1 z => ?_)
  obtain ⟨rfl, d0, d0a, d0b, rfl⟩ := z
  refine g_h (wLB f1 f2).symm ?_
  refine g_aload_n (pc := 14) d_HS_writeShop_14 rfl 1 rfl ?_
  refine g_getR (pc := 15) (ci := 0) (f := 6) (b := so) rfl r_x_6 d_HS_writeShop_15 fl_HS_42 (by decide) k_x ?_
  refine g_aload_n (pc := 18) d_HS_writeShop_18 rfl 0 rfl ?_
  refine g_sgI (pc := 19) (f := 0) rfl d_HS_writeShop_19 fl_HS_144 hB (by first | assumption | omega | decide) ?_
  refine g_h (wLB f1 f2) ?_
  refine g_callV (k := 0) (n := 0) (kz := 0) (nz := 0) (pc := 22) (ci := 8) (As := [.int _]) d_HS_writeShop_22 rfl mv_SB_appendI st_HS_writeShop_292 rfl rfl (by decide) k_so rfl rfl (Nat.le_of_ble_eq_true rfl) (cz_SB_appendI (h := wB h b B) (R := []) (cnt := 0) hS nd d0a d0b hp) (fun _ _ z => z.elim) (fun v h1 z => ?_)
  obtain ⟨rfl, d1, d1a, d1b, rfl⟩ := z
  refine g_h (wLB f1 f2).symm ?_
  refine g_pop (pc := 25) d_HS_writeShop_25 rfl ?_
  refine g_aload_n (pc := 26) d_HS_writeShop_26 rfl 1 rfl ?_
  refine g_getR (pc := 27) (ci := 0) (f := 6) (b := so) rfl r_x_6 d_HS_writeShop_27 fl_HS_42 (by decide) k_x ?_
  refine g_aload_n (pc := 30) d_HS_writeShop_30 rfl 1 rfl ?_
  refine g_getR (pc := 31) (ci := 0) (f := 2) (b := b) rfl r_x_2 d_HS_writeShop_31 fl_HS_50 (by decide) k_x ?_
  refine g_aload_n (pc := 34) d_HS_writeShop_34 rfl 0 rfl ?_
  refine g_cV1 (pc := 35) (ci := 4) (As := [.ref _]) d_HS_writeShop_35 rfl mv_BU_hasTrueScale st_HS_writeShop_223 rfl rfl (by decide) rfl rfl (Nat.le_of_ble_eq_true rfl) hB.1 (cb_hasTrueScale (h := wL h _) (i := i) hB (by omega) hw hn) ?_
  refine g_if_eq (pc := 38) (tgt := 46) d_HS_writeShop_38 (by decide) (fun c_38 => ?_) (fun c_38 => ?_)
  · skip
    have y1 : ¬ (M_tot B.1 B.2.1 (B.2.2 i) nw) = 0 := of_decide_eq_false (bI_0.mp c_38)
    refine g_bipush (pc := 46) (v := 102) d_HS_writeShop_46 (by decide) ?_
    refine g_top (y := nI 102) rfl ?_
    refine g_h (wLB f1 f2) ?_
    refine g_callV (k := 0) (n := 0) (kz := 0) (nz := 0) (pc := 48) (ci := 8) (As := [.int _]) d_HS_writeShop_48 rfl mv_SB_appendC st_HS_writeShop_296 rfl rfl (by decide) k_so rfl rfl (Nat.le_of_ble_eq_true rfl) (cz_SB_appendC (h := wB h b B) (R := []) (b := 102) (cnt := ((dgt (B.2.2 i 0))).length) hS nd d1a d1b (by (try simp only [List.length_append, List.length_cons, List.length_nil]); omega) (by decide)) (fun _ _ z => z.elim) (fun v h1 z => ?_)
    obtain ⟨rfl, d2, d2a, d2b, rfl⟩ := z
    rw [Wr_app]
    have d2c : d2 2 = nI ((dgt (B.2.2 i 0)) ++ [nI 102]).length := by rw [d2b]; congr 1; simp only [List.length_append, List.length_cons, List.length_nil]
    clear d2b
    have d2b := d2c
    refine g_h (wLB f1 f2).symm ?_
    refine g_pop (pc := 51) d_HS_writeShop_51 rfl ?_
    refine g_aload_n (pc := 52) d_HS_writeShop_52 rfl 0 rfl ?_
    refine g_aload_n (pc := 53) d_HS_writeShop_53 rfl 1 rfl ?_
    refine g_getR (pc := 54) (ci := 0) (f := 2) (b := b) rfl r_x_2 d_HS_writeShop_54 fl_HS_50 (by decide) k_x ?_
    refine g_bgI (pc := 57) (f := 9) rfl d_HS_writeShop_57 fl_HS_177 hB ?_
    refine g_cV1 (pc := 60) (ci := 5) (As := [.int _]) d_HS_writeShop_60 rfl mv_SH_isStampedOn st_HS_writeShop_233 rfl rfl (by decide) rfl rfl (Nat.le_of_ble_eq_true rfl) (hB.sk (by omega)) (cb_isStampedOn (h := wL h _) (i := i) hB (by omega)) ?_
    refine g_if_eq (pc := 63) (tgt := 76) d_HS_writeShop_63 (by decide) (fun c_63 => ?_) (fun c_63 => ?_)
    · skip
      have y2 : M_stamped (B.2.2 i) (B.1 9) = false := bI_0.mp c_63
      refine g_aload_n (pc := 76) d_HS_writeShop_76 rfl 0 rfl ?_
      refine g_sgI (pc := 77) (f := 12) rfl d_HS_writeShop_77 fl_HS_123 hB (by first | assumption | omega | decide) ?_
      refine g_if_ne (pc := 80) (tgt := 93) d_HS_writeShop_80 (by decide) (fun c_80 => ?_) (fun c_80 => ?_)
      · skip
        have y3 : B.2.2 i 12 ≠ 0 := c_80
        refine g_aload_n (pc := 93) d_HS_writeShop_93 rfl 1 rfl ?_
        refine g_getR (pc := 94) (ci := 0) (f := 6) (b := so) rfl r_x_6 d_HS_writeShop_94 fl_HS_42 (by decide) k_x ?_
        refine g_h (wLB f1 f2) ?_
        refine g_cV1 (pc := 97) (ci := 8) (As := []) d_HS_writeShop_97 rfl mv_SB_length st_HS_writeShop_299 rfl rfl (by decide) rfl rfl (Nat.le_of_ble_eq_true rfl) k_so (cz_SB_length (h := wB h b B) (R := []) (cnt := ((dgt (B.2.2 i 0)) ++ [nI 102]).length) hS nd d2a d2b) ?_
        refine g_h (wLB f1 f2).symm ?_
        refine g_iret (pc := 100) d_HS_writeShop_100 rfl ?_
        have e9 : (txt (B.2.2 i 0) (decide ((M_tot B.1 B.2.1 (B.2.2 i) nw) = 0)) (M_stamped (B.2.2 i) (B.1 9)) (decide (B.2.2 i 12 ≠ 0))) = (dgt (B.2.2 i 0)) ++ [nI 102] := by
          rw [txt_is, decide_eq_false y1, y2, decide_eq_true y3]
          simp only [List.append_assoc, List.append_nil, List.nil_append, List.cons_append, if_true, if_false, Bool.false_eq_true]
          try rfl
        rw [e9]
        exact ⟨rfl, d2, d2a, d2b, rfl⟩
      · skip
        have y3 : ¬ B.2.2 i 12 ≠ 0 := fun z => z c_80
        refine g_aload_n (pc := 83) d_HS_writeShop_83 rfl 1 rfl ?_
        refine g_getR (pc := 84) (ci := 0) (f := 6) (b := so) rfl r_x_6 d_HS_writeShop_84 fl_HS_42 (by decide) k_x ?_
        refine g_bipush (pc := 87) (v := 120) d_HS_writeShop_87 (by decide) ?_
        refine g_top (y := nI 120) rfl ?_
        refine g_h (wLB f1 f2) ?_
        refine g_callV (k := 0) (n := 0) (kz := 0) (nz := 0) (pc := 89) (ci := 8) (As := [.int _]) d_HS_writeShop_89 rfl mv_SB_appendC st_HS_writeShop_296 rfl rfl (by decide) k_so rfl rfl (Nat.le_of_ble_eq_true rfl) (cz_SB_appendC (h := wB h b B) (R := []) (b := 120) (cnt := ((dgt (B.2.2 i 0)) ++ [nI 102]).length) hS nd d2a d2b (by (try simp only [List.length_append, List.length_cons, List.length_nil]); omega) (by decide)) (fun _ _ z => z.elim) (fun v h1 z => ?_)
        obtain ⟨rfl, d3, d3a, d3b, rfl⟩ := z
        rw [Wr_app]
        have d3c : d3 2 = nI ((dgt (B.2.2 i 0)) ++ [nI 102] ++ [nI 120]).length := by rw [d3b]; congr 1; simp only [List.length_append, List.length_cons, List.length_nil]
        clear d3b
        have d3b := d3c
        refine g_h (wLB f1 f2).symm ?_
        refine g_pop (pc := 92) d_HS_writeShop_92 rfl ?_
        refine g_aload_n (pc := 93) d_HS_writeShop_93 rfl 1 rfl ?_
        refine g_getR (pc := 94) (ci := 0) (f := 6) (b := so) rfl r_x_6 d_HS_writeShop_94 fl_HS_42 (by decide) k_x ?_
        refine g_h (wLB f1 f2) ?_
        refine g_cV1 (pc := 97) (ci := 8) (As := []) d_HS_writeShop_97 rfl mv_SB_length st_HS_writeShop_299 rfl rfl (by decide) rfl rfl (Nat.le_of_ble_eq_true rfl) k_so (cz_SB_length (h := wB h b B) (R := []) (cnt := ((dgt (B.2.2 i 0)) ++ [nI 102] ++ [nI 120]).length) hS nd d3a d3b) ?_
        refine g_h (wLB f1 f2).symm ?_
        refine g_iret (pc := 100) d_HS_writeShop_100 rfl ?_
        have e9 : (txt (B.2.2 i 0) (decide ((M_tot B.1 B.2.1 (B.2.2 i) nw) = 0)) (M_stamped (B.2.2 i) (B.1 9)) (decide (B.2.2 i 12 ≠ 0))) = (dgt (B.2.2 i 0)) ++ [nI 102] ++ [nI 120] := by
          rw [txt_is, decide_eq_false y1, y2, decide_eq_false y3]
          simp only [List.append_assoc, List.append_nil, List.nil_append, List.cons_append, if_true, if_false, Bool.false_eq_true]
          try rfl
        rw [e9]
        exact ⟨rfl, d3, d3a, d3b, rfl⟩
    · skip
      have y2 : M_stamped (B.2.2 i) (B.1 9) = true := bI_n0 c_63
      refine g_aload_n (pc := 66) d_HS_writeShop_66 rfl 1 rfl ?_
      refine g_getR (pc := 67) (ci := 0) (f := 6) (b := so) rfl r_x_6 d_HS_writeShop_67 fl_HS_42 (by decide) k_x ?_
      refine g_bipush (pc := 70) (v := 115) d_HS_writeShop_70 (by decide) ?_
      refine g_top (y := nI 115) rfl ?_
      refine g_h (wLB f1 f2) ?_
      refine g_callV (k := 0) (n := 0) (kz := 0) (nz := 0) (pc := 72) (ci := 8) (As := [.int _]) d_HS_writeShop_72 rfl mv_SB_appendC st_HS_writeShop_296 rfl rfl (by decide) k_so rfl rfl (Nat.le_of_ble_eq_true rfl) (cz_SB_appendC (h := wB h b B) (R := []) (b := 115) (cnt := ((dgt (B.2.2 i 0)) ++ [nI 102]).length) hS nd d2a d2b (by (try simp only [List.length_append, List.length_cons, List.length_nil]); omega) (by decide)) (fun _ _ z => z.elim) (fun v h1 z => ?_)
      obtain ⟨rfl, d3, d3a, d3b, rfl⟩ := z
      rw [Wr_app]
      have d3c : d3 2 = nI ((dgt (B.2.2 i 0)) ++ [nI 102] ++ [nI 115]).length := by rw [d3b]; congr 1; simp only [List.length_append, List.length_cons, List.length_nil]
      clear d3b
      have d3b := d3c
      refine g_h (wLB f1 f2).symm ?_
      refine g_pop (pc := 75) d_HS_writeShop_75 rfl ?_
      refine g_aload_n (pc := 76) d_HS_writeShop_76 rfl 0 rfl ?_
      refine g_sgI (pc := 77) (f := 12) rfl d_HS_writeShop_77 fl_HS_123 hB (by first | assumption | omega | decide) ?_
      refine g_if_ne (pc := 80) (tgt := 93) d_HS_writeShop_80 (by decide) (fun c_80 => ?_) (fun c_80 => ?_)
      · skip
        have y3 : B.2.2 i 12 ≠ 0 := c_80
        refine g_aload_n (pc := 93) d_HS_writeShop_93 rfl 1 rfl ?_
        refine g_getR (pc := 94) (ci := 0) (f := 6) (b := so) rfl r_x_6 d_HS_writeShop_94 fl_HS_42 (by decide) k_x ?_
        refine g_h (wLB f1 f2) ?_
        refine g_cV1 (pc := 97) (ci := 8) (As := []) d_HS_writeShop_97 rfl mv_SB_length st_HS_writeShop_299 rfl rfl (by decide) rfl rfl (Nat.le_of_ble_eq_true rfl) k_so (cz_SB_length (h := wB h b B) (R := []) (cnt := ((dgt (B.2.2 i 0)) ++ [nI 102] ++ [nI 115]).length) hS nd d3a d3b) ?_
        refine g_h (wLB f1 f2).symm ?_
        refine g_iret (pc := 100) d_HS_writeShop_100 rfl ?_
        have e9 : (txt (B.2.2 i 0) (decide ((M_tot B.1 B.2.1 (B.2.2 i) nw) = 0)) (M_stamped (B.2.2 i) (B.1 9)) (decide (B.2.2 i 12 ≠ 0))) = (dgt (B.2.2 i 0)) ++ [nI 102] ++ [nI 115] := by
          rw [txt_is, decide_eq_false y1, y2, decide_eq_true y3]
          simp only [List.append_assoc, List.append_nil, List.nil_append, List.cons_append, if_true, if_false, Bool.false_eq_true]
          try rfl
        rw [e9]
        exact ⟨rfl, d3, d3a, d3b, rfl⟩
      · skip
        have y3 : ¬ B.2.2 i 12 ≠ 0 := fun z => z c_80
        refine g_aload_n (pc := 83) d_HS_writeShop_83 rfl 1 rfl ?_
        refine g_getR (pc := 84) (ci := 0) (f := 6) (b := so) rfl r_x_6 d_HS_writeShop_84 fl_HS_42 (by decide) k_x ?_
        refine g_bipush (pc := 87) (v := 120) d_HS_writeShop_87 (by decide) ?_
        refine g_top (y := nI 120) rfl ?_
        refine g_h (wLB f1 f2) ?_
        refine g_callV (k := 0) (n := 0) (kz := 0) (nz := 0) (pc := 89) (ci := 8) (As := [.int _]) d_HS_writeShop_89 rfl mv_SB_appendC st_HS_writeShop_296 rfl rfl (by decide) k_so rfl rfl (Nat.le_of_ble_eq_true rfl) (cz_SB_appendC (h := wB h b B) (R := []) (b := 120) (cnt := ((dgt (B.2.2 i 0)) ++ [nI 102] ++ [nI 115]).length) hS nd d3a d3b (by (try simp only [List.length_append, List.length_cons, List.length_nil]); omega) (by decide)) (fun _ _ z => z.elim) (fun v h1 z => ?_)
        obtain ⟨rfl, d4, d4a, d4b, rfl⟩ := z
        rw [Wr_app]
        have d4c : d4 2 = nI ((dgt (B.2.2 i 0)) ++ [nI 102] ++ [nI 115] ++ [nI 120]).length := by rw [d4b]; congr 1; simp only [List.length_append, List.length_cons, List.length_nil]
        clear d4b
        have d4b := d4c
        refine g_h (wLB f1 f2).symm ?_
        refine g_pop (pc := 92) d_HS_writeShop_92 rfl ?_
        refine g_aload_n (pc := 93) d_HS_writeShop_93 rfl 1 rfl ?_
        refine g_getR (pc := 94) (ci := 0) (f := 6) (b := so) rfl r_x_6 d_HS_writeShop_94 fl_HS_42 (by decide) k_x ?_
        refine g_h (wLB f1 f2) ?_
        refine g_cV1 (pc := 97) (ci := 8) (As := []) d_HS_writeShop_97 rfl mv_SB_length st_HS_writeShop_299 rfl rfl (by decide) rfl rfl (Nat.le_of_ble_eq_true rfl) k_so (cz_SB_length (h := wB h b B) (R := []) (cnt := ((dgt (B.2.2 i 0)) ++ [nI 102] ++ [nI 115] ++ [nI 120]).length) hS nd d4a d4b) ?_
        refine g_h (wLB f1 f2).symm ?_
        refine g_iret (pc := 100) d_HS_writeShop_100 rfl ?_
        have e9 : (txt (B.2.2 i 0) (decide ((M_tot B.1 B.2.1 (B.2.2 i) nw) = 0)) (M_stamped (B.2.2 i) (B.1 9)) (decide (B.2.2 i 12 ≠ 0))) = (dgt (B.2.2 i 0)) ++ [nI 102] ++ [nI 115] ++ [nI 120] := by
          rw [txt_is, decide_eq_false y1, y2, decide_eq_false y3]
          simp only [List.append_assoc, List.append_nil, List.nil_append, List.cons_append, if_true, if_false, Bool.false_eq_true]
          try rfl
        rw [e9]
        exact ⟨rfl, d4, d4a, d4b, rfl⟩
  · skip
    have y1 : (M_tot B.1 B.2.1 (B.2.2 i) nw) = 0 := of_decide_eq_true (bI_n0 c_38)
    refine g_bipush (pc := 41) (v := 116) d_HS_writeShop_41 (by decide) ?_
    refine g_goto (pc := 43) (tgt := 48) d_HS_writeShop_43 (by decide) ?_
    refine g_top (y := nI 116) rfl ?_
    refine g_h (wLB f1 f2) ?_
    refine g_callV (k := 0) (n := 0) (kz := 0) (nz := 0) (pc := 48) (ci := 8) (As := [.int _]) d_HS_writeShop_48 rfl mv_SB_appendC st_HS_writeShop_296 rfl rfl (by decide) k_so rfl rfl (Nat.le_of_ble_eq_true rfl) (cz_SB_appendC (h := wB h b B) (R := []) (b := 116) (cnt := ((dgt (B.2.2 i 0))).length) hS nd d1a d1b (by (try simp only [List.length_append, List.length_cons, List.length_nil]); omega) (by decide)) (fun _ _ z => z.elim) (fun v h1 z => ?_)
    obtain ⟨rfl, d2, d2a, d2b, rfl⟩ := z
    rw [Wr_app]
    have d2c : d2 2 = nI ((dgt (B.2.2 i 0)) ++ [nI 116]).length := by rw [d2b]; congr 1; simp only [List.length_append, List.length_cons, List.length_nil]
    clear d2b
    have d2b := d2c
    refine g_h (wLB f1 f2).symm ?_
    refine g_pop (pc := 51) d_HS_writeShop_51 rfl ?_
    refine g_aload_n (pc := 52) d_HS_writeShop_52 rfl 0 rfl ?_
    refine g_aload_n (pc := 53) d_HS_writeShop_53 rfl 1 rfl ?_
    refine g_getR (pc := 54) (ci := 0) (f := 2) (b := b) rfl r_x_2 d_HS_writeShop_54 fl_HS_50 (by decide) k_x ?_
    refine g_bgI (pc := 57) (f := 9) rfl d_HS_writeShop_57 fl_HS_177 hB ?_
    refine g_cV1 (pc := 60) (ci := 5) (As := [.int _]) d_HS_writeShop_60 rfl mv_SH_isStampedOn st_HS_writeShop_233 rfl rfl (by decide) rfl rfl (Nat.le_of_ble_eq_true rfl) (hB.sk (by omega)) (cb_isStampedOn (h := wL h _) (i := i) hB (by omega)) ?_
    refine g_if_eq (pc := 63) (tgt := 76) d_HS_writeShop_63 (by decide) (fun c_63 => ?_) (fun c_63 => ?_)
    · skip
      have y2 : M_stamped (B.2.2 i) (B.1 9) = false := bI_0.mp c_63
      refine g_aload_n (pc := 76) d_HS_writeShop_76 rfl 0 rfl ?_
      refine g_sgI (pc := 77) (f := 12) rfl d_HS_writeShop_77 fl_HS_123 hB (by first | assumption | omega | decide) ?_
      refine g_if_ne (pc := 80) (tgt := 93) d_HS_writeShop_80 (by decide) (fun c_80 => ?_) (fun c_80 => ?_)
      · skip
        have y3 : B.2.2 i 12 ≠ 0 := c_80
        refine g_aload_n (pc := 93) d_HS_writeShop_93 rfl 1 rfl ?_
        refine g_getR (pc := 94) (ci := 0) (f := 6) (b := so) rfl r_x_6 d_HS_writeShop_94 fl_HS_42 (by decide) k_x ?_
        refine g_h (wLB f1 f2) ?_
        refine g_cV1 (pc := 97) (ci := 8) (As := []) d_HS_writeShop_97 rfl mv_SB_length st_HS_writeShop_299 rfl rfl (by decide) rfl rfl (Nat.le_of_ble_eq_true rfl) k_so (cz_SB_length (h := wB h b B) (R := []) (cnt := ((dgt (B.2.2 i 0)) ++ [nI 116]).length) hS nd d2a d2b) ?_
        refine g_h (wLB f1 f2).symm ?_
        refine g_iret (pc := 100) d_HS_writeShop_100 rfl ?_
        have e9 : (txt (B.2.2 i 0) (decide ((M_tot B.1 B.2.1 (B.2.2 i) nw) = 0)) (M_stamped (B.2.2 i) (B.1 9)) (decide (B.2.2 i 12 ≠ 0))) = (dgt (B.2.2 i 0)) ++ [nI 116] := by
          rw [txt_is, decide_eq_true y1, y2, decide_eq_true y3]
          simp only [List.append_assoc, List.append_nil, List.nil_append, List.cons_append, if_true, if_false, Bool.false_eq_true]
          try rfl
        rw [e9]
        exact ⟨rfl, d2, d2a, d2b, rfl⟩
      · skip
        have y3 : ¬ B.2.2 i 12 ≠ 0 := fun z => z c_80
        refine g_aload_n (pc := 83) d_HS_writeShop_83 rfl 1 rfl ?_
        refine g_getR (pc := 84) (ci := 0) (f := 6) (b := so) rfl r_x_6 d_HS_writeShop_84 fl_HS_42 (by decide) k_x ?_
        refine g_bipush (pc := 87) (v := 120) d_HS_writeShop_87 (by decide) ?_
        refine g_top (y := nI 120) rfl ?_
        refine g_h (wLB f1 f2) ?_
        refine g_callV (k := 0) (n := 0) (kz := 0) (nz := 0) (pc := 89) (ci := 8) (As := [.int _]) d_HS_writeShop_89 rfl mv_SB_appendC st_HS_writeShop_296 rfl rfl (by decide) k_so rfl rfl (Nat.le_of_ble_eq_true rfl) (cz_SB_appendC (h := wB h b B) (R := []) (b := 120) (cnt := ((dgt (B.2.2 i 0)) ++ [nI 116]).length) hS nd d2a d2b (by (try simp only [List.length_append, List.length_cons, List.length_nil]); omega) (by decide)) (fun _ _ z => z.elim) (fun v h1 z => ?_)
        obtain ⟨rfl, d3, d3a, d3b, rfl⟩ := z
        rw [Wr_app]
        have d3c : d3 2 = nI ((dgt (B.2.2 i 0)) ++ [nI 116] ++ [nI 120]).length := by rw [d3b]; congr 1; simp only [List.length_append, List.length_cons, List.length_nil]
        clear d3b
        have d3b := d3c
        refine g_h (wLB f1 f2).symm ?_
        refine g_pop (pc := 92) d_HS_writeShop_92 rfl ?_
        refine g_aload_n (pc := 93) d_HS_writeShop_93 rfl 1 rfl ?_
        refine g_getR (pc := 94) (ci := 0) (f := 6) (b := so) rfl r_x_6 d_HS_writeShop_94 fl_HS_42 (by decide) k_x ?_
        refine g_h (wLB f1 f2) ?_
        refine g_cV1 (pc := 97) (ci := 8) (As := []) d_HS_writeShop_97 rfl mv_SB_length st_HS_writeShop_299 rfl rfl (by decide) rfl rfl (Nat.le_of_ble_eq_true rfl) k_so (cz_SB_length (h := wB h b B) (R := []) (cnt := ((dgt (B.2.2 i 0)) ++ [nI 116] ++ [nI 120]).length) hS nd d3a d3b) ?_
        refine g_h (wLB f1 f2).symm ?_
        refine g_iret (pc := 100) d_HS_writeShop_100 rfl ?_
        have e9 : (txt (B.2.2 i 0) (decide ((M_tot B.1 B.2.1 (B.2.2 i) nw) = 0)) (M_stamped (B.2.2 i) (B.1 9)) (decide (B.2.2 i 12 ≠ 0))) = (dgt (B.2.2 i 0)) ++ [nI 116] ++ [nI 120] := by
          rw [txt_is, decide_eq_true y1, y2, decide_eq_false y3]
          simp only [List.append_assoc, List.append_nil, List.nil_append, List.cons_append, if_true, if_false, Bool.false_eq_true]
          try rfl
        rw [e9]
        exact ⟨rfl, d3, d3a, d3b, rfl⟩
    · skip
      have y2 : M_stamped (B.2.2 i) (B.1 9) = true := bI_n0 c_63
      refine g_aload_n (pc := 66) d_HS_writeShop_66 rfl 1 rfl ?_
      refine g_getR (pc := 67) (ci := 0) (f := 6) (b := so) rfl r_x_6 d_HS_writeShop_67 fl_HS_42 (by decide) k_x ?_
      refine g_bipush (pc := 70) (v := 115) d_HS_writeShop_70 (by decide) ?_
      refine g_top (y := nI 115) rfl ?_
      refine g_h (wLB f1 f2) ?_
      refine g_callV (k := 0) (n := 0) (kz := 0) (nz := 0) (pc := 72) (ci := 8) (As := [.int _]) d_HS_writeShop_72 rfl mv_SB_appendC st_HS_writeShop_296 rfl rfl (by decide) k_so rfl rfl (Nat.le_of_ble_eq_true rfl) (cz_SB_appendC (h := wB h b B) (R := []) (b := 115) (cnt := ((dgt (B.2.2 i 0)) ++ [nI 116]).length) hS nd d2a d2b (by (try simp only [List.length_append, List.length_cons, List.length_nil]); omega) (by decide)) (fun _ _ z => z.elim) (fun v h1 z => ?_)
      obtain ⟨rfl, d3, d3a, d3b, rfl⟩ := z
      rw [Wr_app]
      have d3c : d3 2 = nI ((dgt (B.2.2 i 0)) ++ [nI 116] ++ [nI 115]).length := by rw [d3b]; congr 1; simp only [List.length_append, List.length_cons, List.length_nil]
      clear d3b
      have d3b := d3c
      refine g_h (wLB f1 f2).symm ?_
      refine g_pop (pc := 75) d_HS_writeShop_75 rfl ?_
      refine g_aload_n (pc := 76) d_HS_writeShop_76 rfl 0 rfl ?_
      refine g_sgI (pc := 77) (f := 12) rfl d_HS_writeShop_77 fl_HS_123 hB (by first | assumption | omega | decide) ?_
      refine g_if_ne (pc := 80) (tgt := 93) d_HS_writeShop_80 (by decide) (fun c_80 => ?_) (fun c_80 => ?_)
      · skip
        have y3 : B.2.2 i 12 ≠ 0 := c_80
        refine g_aload_n (pc := 93) d_HS_writeShop_93 rfl 1 rfl ?_
        refine g_getR (pc := 94) (ci := 0) (f := 6) (b := so) rfl r_x_6 d_HS_writeShop_94 fl_HS_42 (by decide) k_x ?_
        refine g_h (wLB f1 f2) ?_
        refine g_cV1 (pc := 97) (ci := 8) (As := []) d_HS_writeShop_97 rfl mv_SB_length st_HS_writeShop_299 rfl rfl (by decide) rfl rfl (Nat.le_of_ble_eq_true rfl) k_so (cz_SB_length (h := wB h b B) (R := []) (cnt := ((dgt (B.2.2 i 0)) ++ [nI 116] ++ [nI 115]).length) hS nd d3a d3b) ?_
        refine g_h (wLB f1 f2).symm ?_
        refine g_iret (pc := 100) d_HS_writeShop_100 rfl ?_
        have e9 : (txt (B.2.2 i 0) (decide ((M_tot B.1 B.2.1 (B.2.2 i) nw) = 0)) (M_stamped (B.2.2 i) (B.1 9)) (decide (B.2.2 i 12 ≠ 0))) = (dgt (B.2.2 i 0)) ++ [nI 116] ++ [nI 115] := by
          rw [txt_is, decide_eq_true y1, y2, decide_eq_true y3]
          simp only [List.append_assoc, List.append_nil, List.nil_append, List.cons_append, if_true, if_false, Bool.false_eq_true]
          try rfl
        rw [e9]
        exact ⟨rfl, d3, d3a, d3b, rfl⟩
      · skip
        have y3 : ¬ B.2.2 i 12 ≠ 0 := fun z => z c_80
        refine g_aload_n (pc := 83) d_HS_writeShop_83 rfl 1 rfl ?_
        refine g_getR (pc := 84) (ci := 0) (f := 6) (b := so) rfl r_x_6 d_HS_writeShop_84 fl_HS_42 (by decide) k_x ?_
        refine g_bipush (pc := 87) (v := 120) d_HS_writeShop_87 (by decide) ?_
        refine g_top (y := nI 120) rfl ?_
        refine g_h (wLB f1 f2) ?_
        refine g_callV (k := 0) (n := 0) (kz := 0) (nz := 0) (pc := 89) (ci := 8) (As := [.int _]) d_HS_writeShop_89 rfl mv_SB_appendC st_HS_writeShop_296 rfl rfl (by decide) k_so rfl rfl (Nat.le_of_ble_eq_true rfl) (cz_SB_appendC (h := wB h b B) (R := []) (b := 120) (cnt := ((dgt (B.2.2 i 0)) ++ [nI 116] ++ [nI 115]).length) hS nd d3a d3b (by (try simp only [List.length_append, List.length_cons, List.length_nil]); omega) (by decide)) (fun _ _ z => z.elim) (fun v h1 z => ?_)
        obtain ⟨rfl, d4, d4a, d4b, rfl⟩ := z
        rw [Wr_app]
        have d4c : d4 2 = nI ((dgt (B.2.2 i 0)) ++ [nI 116] ++ [nI 115] ++ [nI 120]).length := by rw [d4b]; congr 1; simp only [List.length_append, List.length_cons, List.length_nil]
        clear d4b
        have d4b := d4c
        refine g_h (wLB f1 f2).symm ?_
        refine g_pop (pc := 92) d_HS_writeShop_92 rfl ?_
        refine g_aload_n (pc := 93) d_HS_writeShop_93 rfl 1 rfl ?_
        refine g_getR (pc := 94) (ci := 0) (f := 6) (b := so) rfl r_x_6 d_HS_writeShop_94 fl_HS_42 (by decide) k_x ?_
        refine g_h (wLB f1 f2) ?_
        refine g_cV1 (pc := 97) (ci := 8) (As := []) d_HS_writeShop_97 rfl mv_SB_length st_HS_writeShop_299 rfl rfl (by decide) rfl rfl (Nat.le_of_ble_eq_true rfl) k_so (cz_SB_length (h := wB h b B) (R := []) (cnt := ((dgt (B.2.2 i 0)) ++ [nI 116] ++ [nI 115] ++ [nI 120]).length) hS nd d4a d4b) ?_
        refine g_h (wLB f1 f2).symm ?_
        refine g_iret (pc := 100) d_HS_writeShop_100 rfl ?_
        have e9 : (txt (B.2.2 i 0) (decide ((M_tot B.1 B.2.1 (B.2.2 i) nw) = 0)) (M_stamped (B.2.2 i) (B.1 9)) (decide (B.2.2 i 12 ≠ 0))) = (dgt (B.2.2 i 0)) ++ [nI 116] ++ [nI 115] ++ [nI 120] := by
          rw [txt_is, decide_eq_true y1, y2, decide_eq_false y3]
          simp only [List.append_assoc, List.append_nil, List.nil_append, List.cons_append, if_true, if_false, Bool.false_eq_true]
          try rfl
        rw [e9]
        exact ⟨rfl, d4, d4a, d4b, rfl⟩
set_option maxRecDepth 20000 in
theorem ce_HS_writeShopN {E : En} {h : Hp} {x b nw sc ni U : Nat} {B : Bu} {v : Int32} (hE : (eL E).stackTraces = false) (k_x : hK h x = 1) (r_x_2 : hR h x 2 = some b) (hB : BuOk h b) (hG : Gd B nw sc ni U) (hv : v < 0 ∨ nI sc ≤ v) : CE E m_HS_writeShop [.ref x, .int v] (wB h b B) "java/lang/IndexOutOfBoundsException" := by
  refine ct_of rfl (by decide +kernel) (Nat.le_of_ble_eq_true rfl) ?_
  show G E m_HS_writeShop 0 [(0, .ref x), (1, .int v)] [] (wB h b B) 1 6 _ _
  obtain ⟨hw, hn, hs, hm, h0, hni, n3, ⟨sd, hsd, hsx⟩, hop⟩ := id hG.1
  refine g_aload_n (pc := 0) d_HS_writeShop_0 rfl 0 rfl ?_
  refine g_iload_n (pc := 1) d_HS_writeShop_1 rfl 1 rfl ?_
  exact g_eV (k := 0) (n := 0) (pc := 2) (ci := 0) (As := [.int _]) d_HS_writeShop_2 rfl mv_HS_existingShop st_HS_writeShop_119 rfl rfl (by decide) k_x rfl rfl (Nat.le_of_ble_eq_true rfl) (ce_HS_existingShop hE k_x r_x_2 hB hG hv) ⟨rfl, rfl⟩
set_option maxRecDepth 20000 in
theorem cs_HS_outputByte {E : En} {h : Hp} {x so vb cnt : Nat} {c T : Nat → Int32} {j b : Nat} (k_x : hK h x = 1) (r_x_6 : hR h x 6 = some so) (hS : SbOk h so vb) (nd : (so :: vb :: (([] : List (Nat × (Nat → Int32))).map Prod.fst)).Nodup) (hc1 : c 1 = 0) (hc2 : c 2 = nI cnt) (hk : cnt ≤ 16) (hj : j < cnt) (hb : T j = nI b) (hb8 : b < 128) : CR E m_HS_outputByte [.ref x, .int (nI j)] (wL h ((so, c) :: (vb, T) :: [])) (some (.int (nI b))) ((wL h ((so, c) :: (vb, T) :: []))) := by
  refine ct_of rfl (by decide +kernel) (Nat.le_of_ble_eq_true rfl) ?_
  show G E m_HS_outputByte 0 [(0, .ref x), (1, .int (nI j))] [] (wL h ((so, c) :: (vb, T) :: [])) 0 0 _ noX
  have k_so : hK h so = 9 := hS.1
  refine g_iload_n (pc := 0) d_HS_outputByte_0 rfl 1 rfl ?_
  refine g_if_lt (pc := 1) (tgt := 15) d_HS_outputByte_1 (by decide) (fun c_1 => ?_) (fun c_1 => ?_)
  · exact absurd c_1 (lt0 (by omega))
  · skip
    refine g_iload_n (pc := 4) d_HS_outputByte_4 rfl 1 rfl ?_
    refine g_aload_n (pc := 5) d_HS_outputByte_5 rfl 0 rfl ?_
    refine g_getR (pc := 6) (ci := 0) (f := 6) (b := so) rfl r_x_6 d_HS_outputByte_6 fl_HS_42 (by decide) k_x ?_
    refine g_cV1 (pc := 9) (ci := 8) (As := []) d_HS_outputByte_9 rfl mv_SB_length st_HS_outputByte_299 rfl rfl (by decide) rfl rfl (Nat.le_of_ble_eq_true rfl) k_so (cz_SB_length (R := []) hS nd hc1 hc2) ?_
    refine g_icmp_lt (pc := 12) (tgt := 17) d_HS_outputByte_12 (by decide) (fun c_12 => ?_) (fun c_12 => ?_)
    · skip
      refine g_aload_n (pc := 17) d_HS_outputByte_17 rfl 0 rfl ?_
      refine g_getR (pc := 18) (ci := 0) (f := 6) (b := so) rfl r_x_6 d_HS_outputByte_18 fl_HS_42 (by decide) k_x ?_
      refine g_iload_n (pc := 21) d_HS_outputByte_21 rfl 1 rfl ?_
      refine g_cV1 (pc := 22) (ci := 8) (As := [.int _]) d_HS_outputByte_22 rfl mv_SB_charAt st_HS_outputByte_301 rfl rfl (by decide) rfl rfl (Nat.le_of_ble_eq_true rfl) k_so (cz_SB_charAt (R := []) hS nd hc1 hc2 hk hj hb hb8) ?_
      refine g_iret (pc := 25) d_HS_outputByte_25 rfl ?_
      exact ⟨rfl, rfl⟩
    · exact absurd ((nI_ltI (by omega) (by omega)).mpr hj) c_12
set_option maxRecDepth 20000 in
theorem cs_HS_outputByteN {E : En} {h : Hp} {x so vb cnt : Nat} {c T : Nat → Int32} {v : Int32} (k_x : hK h x = 1) (r_x_6 : hR h x 6 = some so) (hS : SbOk h so vb) (nd : (so :: vb :: (([] : List (Nat × (Nat → Int32))).map Prod.fst)).Nodup) (hc1 : c 1 = 0) (hc2 : c 2 = nI cnt) (hk : cnt ≤ 16) (hv : v < 0 ∨ nI cnt ≤ v) : CR E m_HS_outputByte [.ref x, .int v] (wL h ((so, c) :: (vb, T) :: [])) (some (.int (-1))) ((wL h ((so, c) :: (vb, T) :: []))) := by
  refine ct_of rfl (by decide +kernel) (Nat.le_of_ble_eq_true rfl) ?_
  show G E m_HS_outputByte 0 [(0, .ref x), (1, .int v)] [] (wL h ((so, c) :: (vb, T) :: [])) 0 0 _ noX
  have k_so : hK h so = 9 := hS.1
  refine g_iload_n (pc := 0) d_HS_outputByte_0 rfl 1 rfl ?_
  refine g_if_lt (pc := 1) (tgt := 15) d_HS_outputByte_1 (by decide) (fun c_1 => ?_) (fun c_1 => ?_)
  · skip
    refine g_iconst (pc := 15) (v := (-1)) d_HS_outputByte_15 (by decide) ?_
    refine g_iret (pc := 16) d_HS_outputByte_16 rfl ?_
    exact ⟨rfl, rfl⟩
  · skip
    refine g_iload_n (pc := 4) d_HS_outputByte_4 rfl 1 rfl ?_
    refine g_aload_n (pc := 5) d_HS_outputByte_5 rfl 0 rfl ?_
    refine g_getR (pc := 6) (ci := 0) (f := 6) (b := so) rfl r_x_6 d_HS_outputByte_6 fl_HS_42 (by decide) k_x ?_
    refine g_cV1 (pc := 9) (ci := 8) (As := []) d_HS_outputByte_9 rfl mv_SB_length st_HS_outputByte_299 rfl rfl (by decide) rfl rfl (Nat.le_of_ble_eq_true rfl) k_so (cz_SB_length (R := []) hS nd hc1 hc2) ?_
    refine g_icmp_lt (pc := 12) (tgt := 17) d_HS_outputByte_12 (by decide) (fun c_12 => ?_) (fun c_12 => ?_)
    · exact (hv.elim (fun z => c_1 z) (fun z => absurd c_12 (Int32.not_lt.mpr z))).elim
    · skip
      refine g_iconst (pc := 15) (v := (-1)) d_HS_outputByte_15 (by decide) ?_
      refine g_iret (pc := 16) d_HS_outputByte_16 rfl ?_
      exact ⟨rfl, rfl⟩
