/-! THE CLASS'S OWN METHODS: undo and snapshots -/
theorem g_aload_nN {E : En} {M : Mt} {pc : Nat} {lv : List (Nat × Value)} {st : List Value} {h : Hp} {k n : Nat} {P : Option Value → Hp → Prop} {X : String → Hp → Prop} {j : Fin 4} {i : Nat} (hd : decode (mC M) pc = .ok (.aload_n j, 1)) (hi : (j : Nat) = i) (w : Nat) (hw : lv[w]? = some (i, .null))
    (kk : G E M (pc + 1) lv (.null :: st) h k n P X) : G E M pc lv (st) h k n P X := by
  intro p e R s m args below meth c H locs cells slots ls C r h1 h2 hl
  exact lv_aload_nN C.1 C.2.1 hd hi (lv_at hl w hw) (kk p e R s m args below meth c H locs cells slots ls C r h1 h2 hl)
theorem g_astore_nN {E : En} {M : Mt} {pc : Nat} {lv : List (Nat × Value)} {st : List Value} {h : Hp} {k n : Nat} {P : Option Value → Hp → Prop} {X : String → Hp → Prop} {j : Fin 4} {i : Nat} {lv' : List (Nat × Value)} (hd : decode (mC M) pc = .ok (.astore_n j, 1)) (hi : (j : Nat) = i) (hn : i < mN M) (hv : (i, Value.null) :: lv.filter (fun q => !(q.1 == i) && !(q.1 + 1 == i && q.2.category == 2)) = lv')
    (kk : G E M (pc + 1) lv' st h k n P X) : G E M pc lv (.null :: st) h k n P X := by
  intro p e R s m args below meth c H locs cells slots ls C r h1 h2 hl
  exact lv_astore_nN C.1 C.2.1 hd hi hl hn hv (fun ls' hl' => kk p e R s m args below meth c H locs cells slots ls' C r h1 h2 hl')
theorem d_HS_undo_0 : decode (mC m_HS_undo) 0 = .ok (.aload_n 0, 1) := by decide +kernel
theorem d_HS_undo_1 : decode (mC m_HS_undo) 1 = .ok (.getfield 31, 3) := by decide +kernel
theorem d_HS_undo_4 : decode (mC m_HS_undo) 4 = .ok (.aload_n 0, 1) := by decide +kernel
theorem d_HS_undo_5 : decode (mC m_HS_undo) 5 = .ok (.getfield 50, 3) := by decide +kernel
theorem d_HS_undo_8 : decode (mC m_HS_undo) 8 = .ok (.invokevirtual 166, 3) := by decide +kernel
theorem d_HS_undo_11 : decode (mC m_HS_undo) 11 = .ok (.ifCond .ne 13, 3) := by decide +kernel
theorem d_HS_undo_14 : decode (mC m_HS_undo) 14 = .ok (.new 169, 3) := by decide +kernel
theorem d_HS_undo_17 : decode (mC m_HS_undo) 17 = .ok (.dup, 1) := by decide +kernel
theorem d_HS_undo_18 : decode (mC m_HS_undo) 18 = .ok (.ldc 171, 2) := by decide +kernel
theorem d_HS_undo_20 : decode (mC m_HS_undo) 20 = .ok (.invokespecial 173, 3) := by decide +kernel
theorem d_HS_undo_23 : decode (mC m_HS_undo) 23 = .ok (.athrow, 1) := by decide +kernel
theorem d_HS_undo_24 : decode (mC m_HS_undo) 24 = .ok (.aload_n 0, 1) := by decide +kernel
theorem d_HS_undo_25 : decode (mC m_HS_undo) 25 = .ok (.getfield 31, 3) := by decide +kernel
theorem d_HS_undo_28 : decode (mC m_HS_undo) 28 = .ok (.getfield 174, 3) := by decide +kernel
theorem d_HS_undo_31 : decode (mC m_HS_undo) 31 = .ok (.ireturn, 1) := by decide +kernel
set_option maxRecDepth 20000 in
theorem ce_HS_undo {E : En} {h : Hp} {x b hy pp nx : Nat} (hE : (eL E).stackTraces = false) (k_x : hK h x = 1) (r_x_2 : hR h x 2 = some b) (r_x_4 : hR h x 4 = some hy) (hH : HiOk h hy pp) (r1 : hI h hy 1 = nI 0) (r2 : hI h hy 2 = nI nx) (n8 : nx < 8) : CE E m_HS_undo [.ref x] h "java/util/NoSuchElementException" := by
  refine ct_of rfl (by decide +kernel) (Nat.le_of_ble_eq_true rfl) ?_
  show G E m_HS_undo 0 [(0, .ref x)] [] h 1 6 _ _
  refine g_aload_n (pc := 0) d_HS_undo_0 rfl 0 rfl ?_
  refine g_getR (pc := 1) (ci := 0) (f := 4) (b := hy) rfl r_x_4 d_HS_undo_1 fl_HS_31 (by decide) k_x ?_
  refine g_aload_n (pc := 4) d_HS_undo_4 rfl 0 rfl ?_
  refine g_getR (pc := 5) (ci := 0) (f := 2) (b := b) rfl r_x_2 d_HS_undo_5 fl_HS_50 (by decide) k_x ?_
  refine g_cV1 (pc := 8) (ci := 6) (As := [.ref _]) d_HS_undo_8 rfl mv_HI_takeBack st_HS_undo_166 rfl rfl (by decide) rfl rfl (Nat.le_of_ble_eq_true rfl) hH.1 (cr_HI_takeBack0 hH r1 r2 n8) ?_
  refine g_if_ne (pc := 11) (tgt := 24) d_HS_undo_11 (by decide) (fun c_11 => ?_) (fun c_11 => ?_)
  · exact (c_11 (by decide)).elim
  · skip
    exact g_throwN (k := 0) (n := 0) (pc := 14) hE rfl th_NSE 11 rfl d_HS_undo_14 d_HS_undo_17 d_HS_undo_18 d_HS_undo_20 d_HS_undo_23 (Nat.le_of_ble_eq_true rfl) (Nat.le_of_ble_eq_true rfl) (Nat.le_of_ble_eq_true rfl) ⟨rfl, rfl⟩
set_option maxRecDepth 20000 in
theorem cs_HS_undo {E : En} {h : Hp} {x b hy pp pk nx cnt nw sc ni U : Nat} (k_x : hK h x = 1) (r_x_2 : hR h x 2 = some b) (r_x_4 : hR h x 4 = some hy) (hH : HiOk h hy pp) (r1 : hI h hy 1 = nI cnt) (r2 : hI h hy 2 = nI nx) (n8 : nx < 8) (c8 : cnt ≤ 8) (c0 : 0 < cnt) (hB : BuOk h b) (hs : hR h pp (pv nx) = some pk) (hP : BuOk h pk) (hD : Dis h b pk) (hG : Gd (vB h pk) nw sc ni U) : CR E m_HS_undo [.ref x] h (some (.int (nI (cnt - 1)))) (sA (wB h b (P_copy nw sc (vB h b) (vB h pk))) hy (u1 (u1 (hI h hy) 2 (nI (pv nx))) 1 (nI (cnt - 1)))) := by
  refine ct_of rfl (by decide +kernel) (Nat.le_of_ble_eq_true rfl) ?_
  show G E m_HS_undo 0 [(0, .ref x)] [] h 0 0 _ noX
  refine g_aload_n (pc := 0) d_HS_undo_0 rfl 0 rfl ?_
  refine g_getR (pc := 1) (ci := 0) (f := 4) (b := hy) rfl r_x_4 d_HS_undo_1 fl_HS_31 (by decide) k_x ?_
  refine g_aload_n (pc := 4) d_HS_undo_4 rfl 0 rfl ?_
  refine g_getR (pc := 5) (ci := 0) (f := 2) (b := b) rfl r_x_2 d_HS_undo_5 fl_HS_50 (by decide) k_x ?_
  refine g_cV1 (pc := 8) (ci := 6) (As := [.ref _]) d_HS_undo_8 rfl mv_HI_takeBack st_HS_undo_166 rfl rfl (by decide) rfl rfl (Nat.le_of_ble_eq_true rfl) hH.1 (cr_HI_takeBack hH r1 r2 n8 c8 c0 hB hs hP hD hG) ?_
  refine g_if_ne (pc := 11) (tgt := 24) d_HS_undo_11 (by decide) (fun c_11 => ?_) (fun c_11 => ?_)
  · skip
    refine g_aload_n (pc := 24) d_HS_undo_24 rfl 0 rfl ?_
    refine g_getR (pc := 25) (ci := 0) (f := 4) (b := hy) rfl r_x_4 d_HS_undo_25 fl_HS_31 (by decide) k_x ?_
    refine g_getIX (pc := 28) (ci := 6) (f := 1) (nI (cnt - 1)) rfl d_HS_undo_28 fl_HS_174 (by decide) hH.1 (by rw [hI_sA, if_pos rfl, u1_same]) ?_
    refine g_iret (pc := 31) d_HS_undo_31 rfl ?_
    exact ⟨rfl, rfl⟩
  · exact absurd c_11 (by decide)
theorem d_HS_saveSnapshot_0 : decode (mC m_HS_saveSnapshot) 0 = .ok (.iload_n 1, 1) := by decide +kernel
theorem d_HS_saveSnapshot_1 : decode (mC m_HS_saveSnapshot) 1 = .ok (.iconst 0, 1) := by decide +kernel
theorem d_HS_saveSnapshot_2 : decode (mC m_HS_saveSnapshot) 2 = .ok (.iconst 1, 1) := by decide +kernel
theorem d_HS_saveSnapshot_3 : decode (mC m_HS_saveSnapshot) 3 = .ok (.invokestatic 70, 3) := by decide +kernel
theorem d_HS_saveSnapshot_6 : decode (mC m_HS_saveSnapshot) 6 = .ok (.aload_n 0, 1) := by decide +kernel
theorem d_HS_saveSnapshot_7 : decode (mC m_HS_saveSnapshot) 7 = .ok (.getfield 35, 3) := by decide +kernel
theorem d_HS_saveSnapshot_10 : decode (mC m_HS_saveSnapshot) 10 = .ok (.iload_n 1, 1) := by decide +kernel
theorem d_HS_saveSnapshot_11 : decode (mC m_HS_saveSnapshot) 11 = .ok (.aaload, 1) := by decide +kernel
theorem d_HS_saveSnapshot_12 : decode (mC m_HS_saveSnapshot) 12 = .ok (.ifnonnull 16, 3) := by decide +kernel
theorem d_HS_saveSnapshot_15 : decode (mC m_HS_saveSnapshot) 15 = .ok (.aload_n 0, 1) := by decide +kernel
theorem d_HS_saveSnapshot_16 : decode (mC m_HS_saveSnapshot) 16 = .ok (.getfield 35, 3) := by decide +kernel
theorem d_HS_saveSnapshot_19 : decode (mC m_HS_saveSnapshot) 19 = .ok (.iload_n 1, 1) := by decide +kernel
theorem d_HS_saveSnapshot_20 : decode (mC m_HS_saveSnapshot) 20 = .ok (.new 21, 3) := by decide +kernel
theorem d_HS_saveSnapshot_23 : decode (mC m_HS_saveSnapshot) 23 = .ok (.dup, 1) := by decide +kernel
theorem d_HS_saveSnapshot_24 : decode (mC m_HS_saveSnapshot) 24 = .ok (.invokespecial 23, 3) := by decide +kernel
theorem d_HS_saveSnapshot_27 : decode (mC m_HS_saveSnapshot) 27 = .ok (.aastore, 1) := by decide +kernel
theorem d_HS_saveSnapshot_28 : decode (mC m_HS_saveSnapshot) 28 = .ok (.aload_n 0, 1) := by decide +kernel
theorem d_HS_saveSnapshot_29 : decode (mC m_HS_saveSnapshot) 29 = .ok (.getfield 35, 3) := by decide +kernel
theorem d_HS_saveSnapshot_32 : decode (mC m_HS_saveSnapshot) 32 = .ok (.iload_n 1, 1) := by decide +kernel
theorem d_HS_saveSnapshot_33 : decode (mC m_HS_saveSnapshot) 33 = .ok (.aaload, 1) := by decide +kernel
theorem d_HS_saveSnapshot_34 : decode (mC m_HS_saveSnapshot) 34 = .ok (.aload_n 0, 1) := by decide +kernel
theorem d_HS_saveSnapshot_35 : decode (mC m_HS_saveSnapshot) 35 = .ok (.getfield 50, 3) := by decide +kernel
theorem d_HS_saveSnapshot_38 : decode (mC m_HS_saveSnapshot) 38 = .ok (.invokevirtual 92, 3) := by decide +kernel
theorem d_HS_saveSnapshot_41 : decode (mC m_HS_saveSnapshot) 41 = .ok (.return_, 1) := by decide +kernel
set_option maxRecDepth 20000 in
theorem lp_HS_save {E : En} {h2 : Hp} {x b sn s pk nw sc ni U k n : Nat} {PP : Option Value → Hp → Prop} (k_x : hK h2 x = 1) (r_x_2 : hR h2 x 2 = some b) (r_x_5 : hR h2 x 5 = some sn) (k_sn : hK h2 sn = 25) (l_sn : hL h2 sn = 2) (s2 : s < 2) (hN : BuOk h2 b) (hG : Gd (vB h2 b) nw sc ni U) (hs : hR h2 sn s = some pk) (hB : BuOk h2 pk) (hD : Dis h2 pk b) (kk : PP none (wB h2 pk (P_copy nw sc (vB h2 pk) (vB h2 b)))) : G E m_HS_saveSnapshot 28 [(0, .ref x), (1, .int (nI s))] [] h2 k n PP noX := by
  obtain ⟨hw9, hn9, hs9, hm9, -, -, -, -, hop9⟩ := id hG.1
  refine g_aload_n (pc := 28) d_HS_saveSnapshot_28 rfl 0 rfl ?_
  refine g_getR (pc := 29) (ci := 0) (f := 5) (b := sn) rfl r_x_5 d_HS_saveSnapshot_29 fl_HS_35 (by decide) k_x ?_
  refine g_iload_n (pc := 32) d_HS_saveSnapshot_32 rfl 1 rfl ?_
  refine g_aaloadX (pc := 33) (kd := 25) pk d_HS_saveSnapshot_33 (Or.inl rfl) k_sn (by rw [l_sn]; exact s2) (by rw [l_sn]; decide) (rOk_of hs) (rA_of hs) ?_
  refine g_aload_n (pc := 34) d_HS_saveSnapshot_34 rfl 0 rfl ?_
  refine g_getR (pc := 35) (ci := 0) (f := 2) (b := b) rfl r_x_2 d_HS_saveSnapshot_35 fl_HS_50 (by decide) k_x ?_
  refine g_h (h' := wB h2 pk (vB h2 pk)) wB_v.symm ?_
  refine g_cV0 (pc := 38) (ci := 4) (As := [.ref _]) d_HS_saveSnapshot_38 rfl mv_BU_copyFrom st_HS_saveSnapshot_92 rfl rfl (by decide) rfl rfl (Nat.le_of_ble_eq_true rfl) hB.1 (cb_copyFrom hB hN hD hw9 hn9 hs9 hm9 hop9) ?_
  refine g_vret (pc := 41) d_HS_saveSnapshot_41 rfl ?_
  exact kk
set_option maxRecDepth 20000 in
theorem cs_HS_saveSnapshot {E : En} {h : Hp} {x b sn s nw sc ni U : Nat} (k_x : hK h x = 1) (r_x_2 : hR h x 2 = some b) (r_x_5 : hR h x 5 = some sn) (k_sn : hK h sn = 25) (l_sn : hL h sn = 2) (s2 : s < 2) (hN : BuOk h b) (hG : Gd (vB h b) nw sc ni U) (hD : ∀ pk, hR h sn s = some pk → BuOk h pk ∧ Dis h pk b) : CT E m_HS_saveSnapshot [.ref x, .int (nI s)] h 11 156 (fun v h9 => v = none ∧ ∃ pk h2, Slot h sn s pk h2 ∧ h9 = wB h2 pk (P_copy nw sc (vB h2 pk) (vB h b))) noX := by
  refine ct_of rfl (by decide +kernel) (Nat.le_of_ble_eq_true rfl) ?_
  show G E m_HS_saveSnapshot 0 [(0, .ref x), (1, .int (nI s))] [] h 11 156 _ noX
  have hr1 : (0 : Int32) ≤ nI s := (nI_leI (a := 0) (by omega) (by omega)).mpr (by omega)
  have hr2 : nI s ≤ 1 := (nI_leI (b := 1) (by omega) (by omega)).mpr (by omega)
  have fin : ∀ (pk : Nat) (h2 : Hp) (k n : Nat), Slot h sn s pk h2 → G E m_HS_saveSnapshot 28 [(0, .ref x), (1, .int (nI s))] [] h2 k n (fun v h9 => v = none ∧ ∃ pk h2, Slot h sn s pk h2 ∧ h9 = wB h2 pk (P_copy nw sc (vB h2 pk) (vB h b))) noX := by
    intro pk h2 k n s9
    have kk := s9.kp
    obtain ⟨p1, p2⟩ := s9.two k_sn hN hD
    obtain ⟨b1, -, -, b4⟩ := hN.kp kk k_sn
    obtain ⟨i1, i2, i3, i4⟩ := kk x (by omega)
    obtain ⟨j1, -, j3, j4⟩ := kk sn (by omega)
    have ne : x ≠ sn := fun z => by rw [z] at k_x; omega
    refine lp_HS_save (pk := pk) (nw := nw) (sc := sc) (ni := ni) (U := U) (by rw [i3]; exact k_x) (by rw [i2 ne]; exact r_x_2) (by rw [i2 ne]; exact r_x_5) (by rw [j3]; exact k_sn) (by rw [j4]; exact l_sn) s2 b1 (by rw [b4]; exact hG) s9.nx p1 p2 ⟨rfl, pk, h2, s9, ?_⟩
    rw [b4]
  have hin : vp_in (nI s) (hL h sn) := vp_in_nI (by rw [l_sn]; exact s2) (by rw [l_sn]; decide)
  have cl : (nI s).toNatClampNeg = s := nI_clamp (by omega)
  refine g_iload_n (pc := 0) d_HS_saveSnapshot_0 rfl 1 rfl ?_
  refine g_iconst (pc := 1) (v := 0) d_HS_saveSnapshot_1 (by decide) ?_
  refine g_iconst (pc := 2) (v := 1) d_HS_saveSnapshot_2 (by decide) ?_
  refine g_cS0 (pc := 3) (As := [.int _, .int _, .int _]) d_HS_saveSnapshot_3 rfl ms_HS_requireRange st_HS_saveSnapshot_70 rfl rfl (Nat.le_of_ble_eq_true rfl) (cs_HS_requireRange hr1 hr2) ?_
  refine g_aload_n (pc := 6) d_HS_saveSnapshot_6 rfl 0 rfl ?_
  refine g_getR (pc := 7) (ci := 0) (f := 5) (b := sn) rfl r_x_5 d_HS_saveSnapshot_7 fl_HS_35 (by decide) k_x ?_
  refine g_iload_n (pc := 10) d_HS_saveSnapshot_10 rfl 1 rfl ?_
  cases hs : hR h sn s with
  | some pk =>
    refine g_aaload (pc := 11) (kd := 25) (b := pk) d_HS_saveSnapshot_11 (Or.inl rfl) k_sn hin (by rw [cl]; exact hs) ?_
    refine g_ifnonnull (pc := 12) (tgt := 28) d_HS_saveSnapshot_12 (by decide) ?_
    exact fin pk h 11 156 (Or.inl ⟨rfl, hs⟩)
  | none =>
    refine g_aaloadN (pc := 11) (kd := 25) d_HS_saveSnapshot_11 (Or.inl rfl) k_sn hin (by rw [cl]; exact hs) ?_
    refine g_ifnonnullN (pc := 12) d_HS_saveSnapshot_12 ?_
    refine g_aload_n (pc := 15) d_HS_saveSnapshot_15 rfl 0 rfl ?_
    refine g_getR (pc := 16) (ci := 0) (f := 5) (b := sn) rfl r_x_5 d_HS_saveSnapshot_16 fl_HS_35 (by decide) k_x ?_
    refine g_iload_n (pc := 19) d_HS_saveSnapshot_19 rfl 1 rfl ?_
    refine g_mkB (k := 0) (n := 0) (pc := 20) d_HS_saveSnapshot_20 cl_HS_21 d_HS_saveSnapshot_23 d_HS_saveSnapshot_24 rfl st_HS_saveSnapshot_23 (Nat.le_of_ble_eq_true rfl) (fun pk h1 nb => ?_)
    have e1 := nb.1 sn (by omega)
    refine g_aastore (pc := 27) (kd := 25) (ci := 4) d_HS_saveSnapshot_27 (Or.inl ⟨rfl, rfl⟩) (by rw [e1.2.2.2.1]; exact k_sn) nb.2.1.1 (by rw [e1.2.2.2.2]; exact hin) ?_
    rw [cl]
    exact fin pk _ 0 0 (Or.inr ⟨hs, h1, nb, rfl⟩)
set_option maxRecDepth 20000 in
theorem ce_HS_saveSnapshotR {E : En} {h : Hp} {x b nw sc ni U : Nat} {B : Bu} {yv : Int32} (hE : (eL E).stackTraces = false) (k_x : hK h x = 1) (r_x_2 : hR h x 2 = some b) (hB : BuOk h b) (hG : Gd B nw sc ni U) (hrn : yv < 0 ∨ 1 < yv) : CE E m_HS_saveSnapshot [.ref x, .int yv] (wB h b B) "java/lang/IllegalArgumentException" := by
  refine ct_of rfl (by decide +kernel) (Nat.le_of_ble_eq_true rfl) ?_
  show G E m_HS_saveSnapshot 0 [(0, .ref x), (1, .int yv)] [] (wB h b B) 1 6 _ _
  obtain ⟨hw, hn, hs, hm, h0, hni, n3, ⟨sd, hsd, hsx⟩, hop⟩ := id hG.1
  refine g_iload_n (pc := 0) d_HS_saveSnapshot_0 rfl 1 rfl ?_
  refine g_iconst (pc := 1) (v := 0) d_HS_saveSnapshot_1 (by decide) ?_
  refine g_iconst (pc := 2) (v := 1) d_HS_saveSnapshot_2 (by decide) ?_
  exact g_eS (k := 0) (n := 0) (pc := 3) (As := [.int _, .int _, .int _]) d_HS_saveSnapshot_3 rfl ms_HS_requireRange st_HS_saveSnapshot_70 rfl rfl (Nat.le_of_ble_eq_true rfl) (ce_HS_requireRange hE hrn) ⟨rfl, rfl⟩
theorem d_HS_restoreSnapshot_0 : decode (mC m_HS_restoreSnapshot) 0 = .ok (.iload_n 1, 1) := by decide +kernel
theorem d_HS_restoreSnapshot_1 : decode (mC m_HS_restoreSnapshot) 1 = .ok (.iconst 0, 1) := by decide +kernel
theorem d_HS_restoreSnapshot_2 : decode (mC m_HS_restoreSnapshot) 2 = .ok (.iconst 1, 1) := by decide +kernel
theorem d_HS_restoreSnapshot_3 : decode (mC m_HS_restoreSnapshot) 3 = .ok (.invokestatic 70, 3) := by decide +kernel
theorem d_HS_restoreSnapshot_6 : decode (mC m_HS_restoreSnapshot) 6 = .ok (.aload_n 0, 1) := by decide +kernel
theorem d_HS_restoreSnapshot_7 : decode (mC m_HS_restoreSnapshot) 7 = .ok (.getfield 35, 3) := by decide +kernel
theorem d_HS_restoreSnapshot_10 : decode (mC m_HS_restoreSnapshot) 10 = .ok (.iload_n 1, 1) := by decide +kernel
theorem d_HS_restoreSnapshot_11 : decode (mC m_HS_restoreSnapshot) 11 = .ok (.aaload, 1) := by decide +kernel
theorem d_HS_restoreSnapshot_12 : decode (mC m_HS_restoreSnapshot) 12 = .ok (.astore_n 2, 1) := by decide +kernel
theorem d_HS_restoreSnapshot_13 : decode (mC m_HS_restoreSnapshot) 13 = .ok (.aload_n 2, 1) := by decide +kernel
theorem d_HS_restoreSnapshot_14 : decode (mC m_HS_restoreSnapshot) 14 = .ok (.ifnonnull 13, 3) := by decide +kernel
theorem d_HS_restoreSnapshot_17 : decode (mC m_HS_restoreSnapshot) 17 = .ok (.new 169, 3) := by decide +kernel
theorem d_HS_restoreSnapshot_20 : decode (mC m_HS_restoreSnapshot) 20 = .ok (.dup, 1) := by decide +kernel
theorem d_HS_restoreSnapshot_21 : decode (mC m_HS_restoreSnapshot) 21 = .ok (.ldc 175, 2) := by decide +kernel
theorem d_HS_restoreSnapshot_23 : decode (mC m_HS_restoreSnapshot) 23 = .ok (.invokespecial 173, 3) := by decide +kernel
theorem d_HS_restoreSnapshot_26 : decode (mC m_HS_restoreSnapshot) 26 = .ok (.athrow, 1) := by decide +kernel
theorem d_HS_restoreSnapshot_27 : decode (mC m_HS_restoreSnapshot) 27 = .ok (.aload_n 0, 1) := by decide +kernel
theorem d_HS_restoreSnapshot_28 : decode (mC m_HS_restoreSnapshot) 28 = .ok (.getfield 31, 3) := by decide +kernel
theorem d_HS_restoreSnapshot_31 : decode (mC m_HS_restoreSnapshot) 31 = .ok (.aload_n 0, 1) := by decide +kernel
theorem d_HS_restoreSnapshot_32 : decode (mC m_HS_restoreSnapshot) 32 = .ok (.getfield 50, 3) := by decide +kernel
theorem d_HS_restoreSnapshot_35 : decode (mC m_HS_restoreSnapshot) 35 = .ok (.invokevirtual 88, 3) := by decide +kernel
theorem d_HS_restoreSnapshot_38 : decode (mC m_HS_restoreSnapshot) 38 = .ok (.aload_n 0, 1) := by decide +kernel
theorem d_HS_restoreSnapshot_39 : decode (mC m_HS_restoreSnapshot) 39 = .ok (.getfield 50, 3) := by decide +kernel
theorem d_HS_restoreSnapshot_42 : decode (mC m_HS_restoreSnapshot) 42 = .ok (.aload_n 2, 1) := by decide +kernel
theorem d_HS_restoreSnapshot_43 : decode (mC m_HS_restoreSnapshot) 43 = .ok (.invokevirtual 92, 3) := by decide +kernel
theorem d_HS_restoreSnapshot_46 : decode (mC m_HS_restoreSnapshot) 46 = .ok (.aload_n 0, 1) := by decide +kernel
theorem d_HS_restoreSnapshot_47 : decode (mC m_HS_restoreSnapshot) 47 = .ok (.getfield 50, 3) := by decide +kernel
theorem d_HS_restoreSnapshot_50 : decode (mC m_HS_restoreSnapshot) 50 = .ok (.getfield 177, 3) := by decide +kernel
theorem d_HS_restoreSnapshot_53 : decode (mC m_HS_restoreSnapshot) 53 = .ok (.ireturn, 1) := by decide +kernel
set_option maxRecDepth 20000 in
theorem ce_HS_restoreSnapshotR {E : En} {h : Hp} {x b nw sc ni U : Nat} {B : Bu} {yv : Int32} (hE : (eL E).stackTraces = false) (k_x : hK h x = 1) (r_x_2 : hR h x 2 = some b) (hB : BuOk h b) (hG : Gd B nw sc ni U) (hrn : yv < 0 ∨ 1 < yv) : CE E m_HS_restoreSnapshot [.ref x, .int yv] (wB h b B) "java/lang/IllegalArgumentException" := by
  refine ct_of rfl (by decide +kernel) (Nat.le_of_ble_eq_true rfl) ?_
  show G E m_HS_restoreSnapshot 0 [(0, .ref x), (1, .int yv)] [] (wB h b B) 1 6 _ _
  obtain ⟨hw, hn, hs, hm, h0, hni, n3, ⟨sd, hsd, hsx⟩, hop⟩ := id hG.1
  refine g_iload_n (pc := 0) d_HS_restoreSnapshot_0 rfl 1 rfl ?_
  refine g_iconst (pc := 1) (v := 0) d_HS_restoreSnapshot_1 (by decide) ?_
  refine g_iconst (pc := 2) (v := 1) d_HS_restoreSnapshot_2 (by decide) ?_
  exact g_eS (k := 0) (n := 0) (pc := 3) (As := [.int _, .int _, .int _]) d_HS_restoreSnapshot_3 rfl ms_HS_requireRange st_HS_restoreSnapshot_70 rfl rfl (Nat.le_of_ble_eq_true rfl) (ce_HS_requireRange hE hrn) ⟨rfl, rfl⟩
set_option maxRecDepth 20000 in
theorem ce_HS_restoreSnapshotE {E : En} {h : Hp} {x b sn s : Nat} (hE : (eL E).stackTraces = false) (k_x : hK h x = 1) (r_x_2 : hR h x 2 = some b) (r_x_5 : hR h x 5 = some sn) (k_sn : hK h sn = 25) (l_sn : hL h sn = 2) (s2 : s < 2) (hs : hR h sn s = none) : CE E m_HS_restoreSnapshot [.ref x, .int (nI s)] h "java/util/NoSuchElementException" := by
  refine ct_of rfl (by decide +kernel) (Nat.le_of_ble_eq_true rfl) ?_
  show G E m_HS_restoreSnapshot 0 [(0, .ref x), (1, .int (nI s))] [] h 1 6 _ _
  have hr1 : (0 : Int32) ≤ nI s := (nI_leI (a := 0) (by omega) (by omega)).mpr (by omega)
  have hr2 : nI s ≤ 1 := (nI_leI (b := 1) (by omega) (by omega)).mpr (by omega)
  have hin : vp_in (nI s) (hL h sn) := vp_in_nI (by rw [l_sn]; exact s2) (by rw [l_sn]; decide)
  have cl : (nI s).toNatClampNeg = s := nI_clamp (by omega)
  refine g_iload_n (pc := 0) d_HS_restoreSnapshot_0 rfl 1 rfl ?_
  refine g_iconst (pc := 1) (v := 0) d_HS_restoreSnapshot_1 (by decide) ?_
  refine g_iconst (pc := 2) (v := 1) d_HS_restoreSnapshot_2 (by decide) ?_
  refine g_cS0 (pc := 3) (As := [.int _, .int _, .int _]) d_HS_restoreSnapshot_3 rfl ms_HS_requireRange st_HS_restoreSnapshot_70 rfl rfl (Nat.le_of_ble_eq_true rfl) (cs_HS_requireRange hr1 hr2) ?_
  refine g_aload_n (pc := 6) d_HS_restoreSnapshot_6 rfl 0 rfl ?_
  refine g_getR (pc := 7) (ci := 0) (f := 5) (b := sn) rfl r_x_5 d_HS_restoreSnapshot_7 fl_HS_35 (by decide) k_x ?_
  refine g_iload_n (pc := 10) d_HS_restoreSnapshot_10 rfl 1 rfl ?_
  refine g_aaloadN (pc := 11) (kd := 25) d_HS_restoreSnapshot_11 (Or.inl rfl) k_sn hin (by rw [cl]; exact hs) ?_
  refine g_astore_nN (pc := 12) (lv' := [(2, .null), (0, .ref x), (1, .int (nI s))]) d_HS_restoreSnapshot_12 rfl (by decide) rfl ?_
  refine g_aload_nN (pc := 13) d_HS_restoreSnapshot_13 rfl 0 rfl ?_
  refine g_ifnonnullN (pc := 14) d_HS_restoreSnapshot_14 ?_
  exact g_throwN (k := 0) (n := 0) (pc := 17) hE rfl th_NSE 12 rfl d_HS_restoreSnapshot_17 d_HS_restoreSnapshot_20 d_HS_restoreSnapshot_21 d_HS_restoreSnapshot_23 d_HS_restoreSnapshot_26 (Nat.le_of_ble_eq_true rfl) (Nat.le_of_ble_eq_true rfl) (Nat.le_of_ble_eq_true rfl) ⟨rfl, rfl⟩
set_option maxRecDepth 20000 in
theorem cs_HS_restoreSnapshot {E : En} {h : Hp} {x b sn s hy sk nw sc ni U : Nat} {S : Bu} {Q : Hp → Prop} (k_x : hK h x = 1) (r_x_2 : hR h x 2 = some b) (r_x_5 : hR h x 5 = some sn) (k_sn : hK h sn = 25) (l_sn : hL h sn = 2) (r_x_4 : hR h x 4 = some hy) (k_hy : hK h hy = 7) (s2 : s < 2) (hs : hR h sn s = some sk) (hG : Gd S nw sc ni U) (hRm : CT E m_HI_remember [.ref hy, .ref b] h 11 156 (fun v h9 => v = none ∧ Q h9) noX) (hQ : ∀ h9, Q h9 → BuOk h9 b ∧ BuOk h9 sk ∧ vB h9 sk = S ∧ Dis h9 b sk ∧ hR h9 x = hR h x ∧ hK h9 x = hK h x) : CT E m_HS_restoreSnapshot [.ref x, .int (nI s)] h 11 156 (fun v h1 => ∃ h9, Q h9 ∧ v = some (.int (S.1 9)) ∧ h1 = wB h9 b (P_copy nw sc (vB h9 b) S)) noX := by
  refine ct_of rfl (by decide +kernel) (Nat.le_of_ble_eq_true rfl) ?_
  show G E m_HS_restoreSnapshot 0 [(0, .ref x), (1, .int (nI s))] [] h 11 156 _ noX
  have hr1 : (0 : Int32) ≤ nI s := (nI_leI (a := 0) (by omega) (by omega)).mpr (by omega)
  have hr2 : nI s ≤ 1 := (nI_leI (b := 1) (by omega) (by omega)).mpr (by omega)
  have hin : vp_in (nI s) (hL h sn) := vp_in_nI (by rw [l_sn]; exact s2) (by rw [l_sn]; decide)
  have cl : (nI s).toNatClampNeg = s := nI_clamp (by omega)
  refine g_iload_n (pc := 0) d_HS_restoreSnapshot_0 rfl 1 rfl ?_
  refine g_iconst (pc := 1) (v := 0) d_HS_restoreSnapshot_1 (by decide) ?_
  refine g_iconst (pc := 2) (v := 1) d_HS_restoreSnapshot_2 (by decide) ?_
  refine g_cS0 (pc := 3) (As := [.int _, .int _, .int _]) d_HS_restoreSnapshot_3 rfl ms_HS_requireRange st_HS_restoreSnapshot_70 rfl rfl (Nat.le_of_ble_eq_true rfl) (cs_HS_requireRange hr1 hr2) ?_
  refine g_aload_n (pc := 6) d_HS_restoreSnapshot_6 rfl 0 rfl ?_
  refine g_getR (pc := 7) (ci := 0) (f := 5) (b := sn) rfl r_x_5 d_HS_restoreSnapshot_7 fl_HS_35 (by decide) k_x ?_
  refine g_iload_n (pc := 10) d_HS_restoreSnapshot_10 rfl 1 rfl ?_
  refine g_aaload (pc := 11) (kd := 25) (b := sk) d_HS_restoreSnapshot_11 (Or.inl rfl) k_sn hin (by rw [cl]; exact hs) ?_
  refine g_astore_n (pc := 12) (lv' := [(2, .ref sk), (0, .ref x), (1, .int (nI s))]) d_HS_restoreSnapshot_12 rfl (by decide) rfl ?_
  refine g_aload_n (pc := 13) d_HS_restoreSnapshot_13 rfl 0 rfl ?_
  refine g_ifnonnull (pc := 14) (tgt := 27) d_HS_restoreSnapshot_14 (by decide) ?_
  refine g_aload_n (pc := 27) d_HS_restoreSnapshot_27 rfl 1 rfl ?_
  refine g_getR (pc := 28) (ci := 0) (f := 4) (b := hy) rfl r_x_4 d_HS_restoreSnapshot_28 fl_HS_31 (by decide) k_x ?_
  refine g_aload_n (pc := 31) d_HS_restoreSnapshot_31 rfl 1 rfl ?_
  refine g_getR (pc := 32) (ci := 0) (f := 2) (b := b) rfl r_x_2 d_HS_restoreSnapshot_32 fl_HS_50 (by decide) k_x ?_
  refine g_callV (k := 0) (n := 0) (kz := 11) (nz := 156) (pc := 35) (ci := 6) (As := [.ref _]) d_HS_restoreSnapshot_35 rfl mv_HI_remember st_HS_restoreSnapshot_88 rfl rfl (by decide) k_hy rfl rfl (Nat.le_of_ble_eq_true rfl) hRm (fun _ _ z => z.elim) (fun v h9 z => ?_)
  obtain ⟨rfl, q9⟩ := z
  obtain ⟨hB, hN, v9, hD, x9, k9⟩ := hQ h9 q9
  have k_x := k9.trans k_x
  have r_x_2 := (congrFun x9 2).trans r_x_2
  rw [← v9] at hG
  obtain ⟨hw9, hn9, hs9, hm9, -, -, -, -, hop9⟩ := id hG.1
  refine g_aload_n (pc := 38) d_HS_restoreSnapshot_38 rfl 1 rfl ?_
  refine g_getR (pc := 39) (ci := 0) (f := 2) (b := b) rfl r_x_2 d_HS_restoreSnapshot_39 fl_HS_50 (by decide) k_x ?_
  refine g_aload_n (pc := 42) d_HS_restoreSnapshot_42 rfl 0 rfl ?_
  refine g_h (h' := wB h9 b (vB h9 b)) wB_v.symm ?_
  refine g_cV0 (pc := 43) (ci := 4) (As := [.ref _]) d_HS_restoreSnapshot_43 rfl mv_BU_copyFrom st_HS_restoreSnapshot_92 rfl rfl (by decide) rfl rfl (Nat.le_of_ble_eq_true rfl) hB.1 (cb_copyFrom hB hN hD hw9 hn9 hs9 hm9 hop9) ?_
  rw [v9]
  refine g_aload_n (pc := 46) d_HS_restoreSnapshot_46 rfl 1 rfl ?_
  refine g_getR (pc := 47) (ci := 0) (f := 2) (b := b) rfl r_x_2 d_HS_restoreSnapshot_47 fl_HS_50 (by decide) k_x ?_
  refine g_bgI (pc := 50) (f := 9) rfl d_HS_restoreSnapshot_50 fl_HS_177 hB ?_
  refine g_top (y := S.1 9) (P_copy_c (by decide)) ?_
  refine g_iret (pc := 53) d_HS_restoreSnapshot_53 rfl ?_
  exact ⟨h9, q9, rfl, rfl⟩
