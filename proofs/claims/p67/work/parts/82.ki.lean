/-! THE LAW: a day, its visits; all of it -/
theorem P_sent_n {nw sc n v : Nat} {C : Bu} (h : (P_choose C sc).1 = none) : P_sent nw sc (n + 1) (v, C) = P_sent nw sc n (v, (P_choose C sc).2) := by
  rw [P_sent]
  dsimp only
  revert h
  generalize P_choose C sc = u
  obtain ⟨a, D⟩ := u
  intro h
  have h : a = none := h
  subst h
  rfl
theorem P_sent_y {nw sc n v j : Nat} {C : Bu} (h : (P_choose C sc).1 = some j) : P_sent nw sc (n + 1) (v, C) = P_sent nw sc n (v + 1, P_ins (P_choose C sc).2 j nw) := by
  rw [P_sent]
  dsimp only
  revert h
  generalize P_choose C sc = u
  obtain ⟨a, D⟩ := u
  intro h
  have h : a = some j := h
  subst h
  rfl
def P_first (nw sc ni : Nat) (L : Bu) : Int32 := if ni = 0 then -1 else oI (P_choose (P_trade sc (P_begin sc L)) sc).1
theorem wt_next {E : En} {h : Hp} {A γ : Nat → Nat} {n nw sc ni U : Nat} {L B : Bu} (W : WS h A γ n nw sc L B) (hG : Gd B nw sc ni U) (J : Jq nw sc L B) (hU : U < 2000000000) : CT E m_HS_nextVisited [.ref (A 22)] h 0 0 (fun v h1 => v = some (.int (P_first nw sc ni L)) ∧ WS h1 A γ n nw sc L B ∧ Fm h h1 A n) noX := by
  have h5 := hG.1.2.2.2.2.2.1
  have h3 := hG.1.2.2.2.2.2.2.1
  by_cases e : ni = 0
  · refine CT.mono (wg_HS_nextVisitedZ W hG (by rw [h5, e]; rfl)) (fun v h1 r => ?_) (fun _ _ x => x)
    obtain ⟨r1, r2⟩ := r
    subst r2
    exact ⟨by rw [r1]; unfold P_first; rw [if_pos e], W, Fm.r⟩
  · refine (wt_HS_nextVisited W hG (fun z => e (nI_inj (by omega) (by decide) (by rw [← h5]; exact z))) hU).mono (fun v h1 r => ?_) (fun _ _ x => x)
    obtain ⟨r1, r2⟩ := r
    exact ⟨by rw [r1]; unfold P_first; rw [if_neg e, (Jq.choose hG.1.2.2.2.2.1 J.begin.trade).1], r2⟩
set_option maxRecDepth 20000 in
theorem lp_LW_day4 {E : En} {h : Hp} {A : Nat → Nat} {m nw sc ni U k n vf : Nat} {Cf : Bu} {x : Int32} {PP : Option Value → Hp → Prop} (HL : LbOk h (A 23) nw sc)
    (kk : G E m_LW_day 404 [(5, .int (nI vf)), (2, .int (nI sc)), (3, .ref (A m)), (4, .int x), (0, .ref (A 22)), (1, .ref (A 23))] [] (wT h (A 23) sc Cf) k n PP noX) : ∀ (d i v : Nat) (C : Bu), i ≤ ni → ni - i < d → Gd C nw sc ni U → (i = 0 → 0 < ni → x = oI (P_choose C sc).1) → P_sent nw sc (ni - i) (v, C) = (vf, Cf) → G E m_LW_day 344 [(6, .int (nI i)), (5, .int (nI v)), (2, .int (nI sc)), (3, .ref (A m)), (4, .int x), (0, .ref (A 22)), (1, .ref (A 23))] [] (wT h (A 23) sc C) k n PP noX := by
  intro d
  induction d with
  | zero => intros; omega
  | succ d ih =>
    intro i v C hi hd hG hx hq
    have s8 := HL.s8
    obtain ⟨-, -, -, -, -, h5, h3, ⟨sd, hsd, hsx⟩, -⟩ := id hG.1
    refine g_iload (pc := 344) d_LW_day_344 0 rfl ?_
    refine g_aload_n (pc := 346) d_LW_day_346 rfl 6 rfl ?_
    refine g_th0 (pc := 347) d_LW_day_347 fl_LW_30 HL ?_
    refine g_iconst (pc := 350) (v := 5) d_LW_day_350 (by decide) ?_
    refine g_thl (pc := 351) (j := 5) d_LW_day_351 HL (by decide) ?_
    refine g_top (y := nI ni) h5 ?_
    refine g_icmp_ge (pc := 352) (tgt := 404) d_LW_day_352 (by decide) (fun c_352 => ?_) (fun c_352 => ?_)
    · skip
      have eq9 : i = ni := by have := (nI_leI9 (a := ni) (b := i) (by omega) (by omega)).mp c_352; omega
      rw [eq9, Nat.sub_self] at hq
      obtain ⟨hq1, hq2⟩ := Prod.mk.inj (show (v, C) = (vf, Cf) from hq)
      subst hq1
      subst hq2
      refine g_perm [1, 2, 3, 4, 5, 6] rfl ?_
      exact kk
    · skip
      have hi9 : i < ni := Nat.lt_of_not_le (fun z => c_352 ((nI_leI9 (by omega) (by omega)).mpr z))
      rw [show ni - i = (ni - (i + 1)) + 1 by omega] at hq
      refine g_aload_n (pc := 355) d_LW_day_355 rfl 6 rfl ?_
      refine g_cS1 (pc := 356) (As := [.ref _]) d_LW_day_356 rfl ms_LW_chosen st_LW_day_186 rfl rfl (Nat.le_of_ble_eq_true rfl) (cl_LW_chosen HL hsd hsx) ?_
      refine g_istore (pc := 359) (lv' := [(7, .int (oI (P_choose C sc).1)), (6, .int (nI i)), (5, .int (nI v)), (2, .int (nI sc)), (3, .ref (A m)), (4, .int x), (0, .ref (A 22)), (1, .ref (A 23))]) d_LW_day_359 (by decide) rfl ?_
      refine g_iload (pc := 361) d_LW_day_361 1 rfl ?_
      refine g_if_ne (pc := 363) (tgt := 375) d_LW_day_363 (by decide) (fun c_363 => ?_) (fun c_363 => ?_)
      · skip
        refine g_iload (pc := 375) d_LW_day_375 0 rfl ?_
        refine g_if_ge (pc := 377) (tgt := 383) d_LW_day_377 (by decide) (fun c_377 => ?_) (fun c_377 => ?_)
        · skip
          obtain ⟨j, hj⟩ : ∃ j, (P_choose C sc).1 = some j := by
            cases e : (P_choose C sc).1 with
            | none => exact absurd (show (0 : Int32) ≤ -1 by rw [e] at c_377; exact c_377) (by decide)
            | some j => exact ⟨j, rfl⟩
          have hj9 : j < sc := P_choose_lt s8.1 hj
          rw [P_sent_y hj] at hq
          refine g_aload_n (pc := 383) d_LW_day_383 rfl 7 rfl ?_
          refine g_aload_n (pc := 384) d_LW_day_384 rfl 7 rfl ?_
          refine g_th2 (pc := 385) d_LW_day_385 fl_LW_45 HL ?_
          refine g_iload (pc := 388) d_LW_day_388 0 rfl ?_
          refine g_top (y := nI j) (by rw [hj]; rfl) ?_
          refine g_tsl (pc := 390) (i := j) d_LW_day_390 HL (by first | assumption | omega) ?_
          refine g_cS1 (pc := 391) (As := [.ref _, .ref _]) d_LW_day_391 rfl ms_LW_visit st_LW_day_190 rfl rfl (Nat.le_of_ble_eq_true rfl) (cl_LW_visit HL hj9) ?_
          refine g_pop (pc := 394) d_LW_day_394 rfl ?_
          obtain ⟨x_1, hx_1⟩ : ∃ y : Int32, y = (nI v) + 1 := ⟨_, rfl⟩
          refine g_iinc (pc := 395) (w := 2) (v := x_1) (lv' := [(5, .int x_1), (7, .int (oI (P_choose C sc).1)), (6, .int (nI i)), (2, .int (nI sc)), (3, .ref (A m)), (4, .int x), (0, .ref (A 22)), (1, .ref (A 23))]) d_LW_day_395 rfl (by rw [hx_1]; rfl) (by decide) rfl ?_
          obtain ⟨x_2, hx_2⟩ : ∃ y : Int32, y = (nI i) + 1 := ⟨_, rfl⟩
          refine g_iinc (pc := 398) (w := 2) (v := x_2) (lv' := [(6, .int x_2), (5, .int x_1), (7, .int (oI (P_choose C sc).1)), (2, .int (nI sc)), (3, .ref (A m)), (4, .int x), (0, .ref (A 22)), (1, .ref (A 23))]) d_LW_day_398 rfl (by rw [hx_2]; rfl) (by decide) rfl ?_
          refine g_goto (pc := 401) (tgt := 344) d_LW_day_401 (by decide) ?_
          obtain rfl : x_2 = nI (i + 1) := by rw [hx_2]; exact nI_1 _
          obtain rfl : x_1 = nI (v + 1) := by rw [hx_1]; exact nI_1 _
          refine g_perm [0, 1, 3, 4, 5, 6, 7] rfl ?_
          exact ih (i + 1) (v + 1) _ (by omega) (by omega) (Gd_ins (Gd_choose hG) hj9) (fun z => by omega) hq
        · skip
          have hj : (P_choose C sc).1 = none := by
            cases e : (P_choose C sc).1 with
            | none => rfl
            | some j =>
              have hj9 : j < sc := P_choose_lt s8.1 e
              exact absurd (show (0 : Int32) ≤ nI j from Int32.not_lt.mp (nI_pos (by omega))) (by rw [e] at c_377; exact c_377)
          rw [P_sent_n hj] at hq
          refine g_goto (pc := 380) (tgt := 398) d_LW_day_380 (by decide) ?_
          obtain ⟨x_3, hx_3⟩ : ∃ y : Int32, y = (nI i) + 1 := ⟨_, rfl⟩
          refine g_iinc (pc := 398) (w := 1) (v := x_3) (lv' := [(6, .int x_3), (7, .int (oI (P_choose C sc).1)), (5, .int (nI v)), (2, .int (nI sc)), (3, .ref (A m)), (4, .int x), (0, .ref (A 22)), (1, .ref (A 23))]) d_LW_day_398 rfl (by rw [hx_3]; rfl) (by decide) rfl ?_
          refine g_goto (pc := 401) (tgt := 344) d_LW_day_401 (by decide) ?_
          obtain rfl : x_3 = nI (i + 1) := by rw [hx_3]; exact nI_1 _
          refine g_perm [0, 2, 3, 4, 5, 6, 7] rfl ?_
          exact ih (i + 1) v _ (by omega) (by omega) (Gd_choose hG) (fun z => by omega) hq
      · skip
        refine g_iload (pc := 366) d_LW_day_366 0 rfl ?_
        refine g_iload (pc := 368) d_LW_day_368 5 rfl ?_
        refine g_icmp_eq (pc := 370) (tgt := 375) d_LW_day_370 (by decide) (fun c_370 => ?_) (fun c_370 => ?_)
        · skip
          refine g_iload (pc := 375) d_LW_day_375 0 rfl ?_
          refine g_if_ge (pc := 377) (tgt := 383) d_LW_day_377 (by decide) (fun c_377 => ?_) (fun c_377 => ?_)
          · skip
            obtain ⟨j, hj⟩ : ∃ j, (P_choose C sc).1 = some j := by
              cases e : (P_choose C sc).1 with
              | none => exact absurd (show (0 : Int32) ≤ -1 by rw [e] at c_377; exact c_377) (by decide)
              | some j => exact ⟨j, rfl⟩
            have hj9 : j < sc := P_choose_lt s8.1 hj
            rw [P_sent_y hj] at hq
            refine g_aload_n (pc := 383) d_LW_day_383 rfl 7 rfl ?_
            refine g_aload_n (pc := 384) d_LW_day_384 rfl 7 rfl ?_
            refine g_th2 (pc := 385) d_LW_day_385 fl_LW_45 HL ?_
            refine g_iload (pc := 388) d_LW_day_388 0 rfl ?_
            refine g_top (y := nI j) (by rw [hj]; rfl) ?_
            refine g_tsl (pc := 390) (i := j) d_LW_day_390 HL (by first | assumption | omega) ?_
            refine g_cS1 (pc := 391) (As := [.ref _, .ref _]) d_LW_day_391 rfl ms_LW_visit st_LW_day_190 rfl rfl (Nat.le_of_ble_eq_true rfl) (cl_LW_visit HL hj9) ?_
            refine g_pop (pc := 394) d_LW_day_394 rfl ?_
            obtain ⟨x_4, hx_4⟩ : ∃ y : Int32, y = (nI v) + 1 := ⟨_, rfl⟩
            refine g_iinc (pc := 395) (w := 2) (v := x_4) (lv' := [(5, .int x_4), (7, .int (oI (P_choose C sc).1)), (6, .int (nI i)), (2, .int (nI sc)), (3, .ref (A m)), (4, .int x), (0, .ref (A 22)), (1, .ref (A 23))]) d_LW_day_395 rfl (by rw [hx_4]; rfl) (by decide) rfl ?_
            obtain ⟨x_5, hx_5⟩ : ∃ y : Int32, y = (nI i) + 1 := ⟨_, rfl⟩
            refine g_iinc (pc := 398) (w := 2) (v := x_5) (lv' := [(6, .int x_5), (5, .int x_4), (7, .int (oI (P_choose C sc).1)), (2, .int (nI sc)), (3, .ref (A m)), (4, .int x), (0, .ref (A 22)), (1, .ref (A 23))]) d_LW_day_398 rfl (by rw [hx_5]; rfl) (by decide) rfl ?_
            refine g_goto (pc := 401) (tgt := 344) d_LW_day_401 (by decide) ?_
            obtain rfl : x_5 = nI (i + 1) := by rw [hx_5]; exact nI_1 _
            obtain rfl : x_4 = nI (v + 1) := by rw [hx_4]; exact nI_1 _
            refine g_perm [0, 1, 3, 4, 5, 6, 7] rfl ?_
            exact ih (i + 1) (v + 1) _ (by omega) (by omega) (Gd_ins (Gd_choose hG) hj9) (fun z => by omega) hq
          · skip
            have hj : (P_choose C sc).1 = none := by
              cases e : (P_choose C sc).1 with
              | none => rfl
              | some j =>
                have hj9 : j < sc := P_choose_lt s8.1 e
                exact absurd (show (0 : Int32) ≤ nI j from Int32.not_lt.mp (nI_pos (by omega))) (by rw [e] at c_377; exact c_377)
            rw [P_sent_n hj] at hq
            refine g_goto (pc := 380) (tgt := 398) d_LW_day_380 (by decide) ?_
            obtain ⟨x_6, hx_6⟩ : ∃ y : Int32, y = (nI i) + 1 := ⟨_, rfl⟩
            refine g_iinc (pc := 398) (w := 1) (v := x_6) (lv' := [(6, .int x_6), (7, .int (oI (P_choose C sc).1)), (5, .int (nI v)), (2, .int (nI sc)), (3, .ref (A m)), (4, .int x), (0, .ref (A 22)), (1, .ref (A 23))]) d_LW_day_398 rfl (by rw [hx_6]; rfl) (by decide) rfl ?_
            refine g_goto (pc := 401) (tgt := 344) d_LW_day_401 (by decide) ?_
            obtain rfl : x_6 = nI (i + 1) := by rw [hx_6]; exact nI_1 _
            refine g_perm [0, 2, 3, 4, 5, 6, 7] rfl ?_
            exact ih (i + 1) v _ (by omega) (by omega) (Gd_choose hG) (fun z => by omega) hq
        · exact absurd (hx (nI_inj (by omega) (by decide) c_363) (by omega)).symm c_370
set_option maxRecDepth 20000 in
theorem cl_LW_day {E : En} {h : Hp} {A γ : Nat → Nat} {n nw sc ni T : Nat} {L B : Bu} (W : WS h A γ n nw sc L B) (p : PB nw sc ni T L B) (hT : T ≤ 100000) : CT E m_LW_day [.ref (A 22), .ref (A 23)] h 12 164 (fun v h9 => v = some (.int 1) ∧ ∃ γ', WS h9 A γ' n nw sc (P_day nw sc ni (0, L)).2 (nB (P_pass nw sc ni 1 (0, B)).2)) noX := by
  refine ct_of rfl (by decide +kernel) (Nat.le_of_ble_eq_true rfl) ?_
  show G E m_LW_day 0 [(0, .ref (A 22)), (1, .ref (A 23))] [] h 12 164 _ noX
  obtain ⟨J, hG, hz, ⟨K, hK1, hK2⟩, hl, hw⟩ := id p
  obtain ⟨p9, hv9⟩ := PB_day p hT
  have HL := W.ok
  have s8 := HL.s8
  have n27 := W.1
  have h3 := hG.1.2.2.2.2.2.2.1
  refine G.mono (k := 11 + 1) (n := 156 + sc) (by omega) (by omega) ?_
  refine g_h W.eq.symm ?_
  refine g_aload_n (pc := 0) d_LW_day_0 rfl 1 rfl ?_
  refine g_th2 (pc := 1) d_LW_day_1 fl_LW_45 HL ?_
  refine g_tsn (pc := 4) d_LW_day_4 HL ?_
  refine g_istore_n (pc := 5) (lv' := [(2, .int (nI sc)), (0, .ref (A 22)), (1, .ref (A 23))]) d_LW_day_5 rfl (by decide) rfl ?_
  refine g_iload_n (pc := 6) d_LW_day_6 rfl 0 rfl ?_
  refine g_h W.eq ?_
  refine g_newarray (k := 11) (n := 156) (pc := 7) (kd := 20) (N := sc) d_LW_day_7 ⟨by decide, by decide⟩ rfl ac_i (lt0 (by omega)) (nI_clamp (by omega)) (by show sc * 4 ≤ _; omega) (fun a ha => ?_)
  obtain ⟨A9, hA9⟩ : ∃ A9, A9 = u1 A n a := ⟨_, rfl⟩
  have nk : hK (hNew h a 20 sc) a = 20 := by show u1 (hK h) a 20 a = 20; rw [u1_same]
  have nl : hL (hNew h a 20 sc) a = sc := by show u1 (hL h) a sc a = sc; rw [u1_same]
  have W1 : WS (hNew h a 20 sc) A9 (γo h γ) (n + 1) nw sc L B := by
    rw [hA9]; exact W.add (Ext.r.new ha) ha (by rw [nk]; decide) (by rw [nk]; decide)
  have ea : a = A9 n := by rw [hA9, u1_same]
  have e22 : A 22 = A9 22 := by rw [hA9, u1_ne (by omega)]
  have e23 : A 23 = A9 23 := by rw [hA9, u1_ne (by omega)]
  have T1 : hK (hNew h a 20 sc) (A9 n) = 20 ∧ hL (hNew h a 20 sc) (A9 n) = sc := by rw [← ea]; exact ⟨nk, nl⟩
  clear nk nl HL
  revert W1 T1
  generalize hNew h a 20 sc = h1
  intro W1 T1
  rw [e22, e23, ea]
  
  refine g_astore_n (pc := 9) (lv' := [(3, .ref (A9 n)), (2, .int (nI sc)), (0, .ref (A9 22)), (1, .ref (A9 23))]) d_LW_day_9 rfl (by decide) rfl ?_
  refine g_aload_n (pc := 10) d_LW_day_10 rfl 2 rfl ?_
  refine g_callV (pc := 11) (kz := 0) (nz := 0) (ci := 0) (As := []) d_LW_day_11 rfl mv_HS_nextVisited st_LW_day_167 rfl rfl (by decide) W1.kx rfl rfl (Nat.le_of_ble_eq_true rfl) (wt_next W1 hG J (by omega)) (fun _ _ z => z.elim) (fun v h2 hv => ?_)
  obtain ⟨rfl, W2, f2⟩ := hv
  refine g_istore (pc := 14) (lv' := [(4, .int (P_first nw sc ni L)), (3, .ref (A9 n)), (2, .int (nI sc)), (0, .ref (A9 22)), (1, .ref (A9 23))]) d_LW_day_14 (by decide) rfl ?_
  refine g_iconst (pc := 16) (v := 0) d_LW_day_16 (by decide) ?_
  refine g_istore (pc := 17) (lv' := [(5, .int (nI 0)), (4, .int (P_first nw sc ni L)), (3, .ref (A9 n)), (2, .int (nI sc)), (0, .ref (A9 22)), (1, .ref (A9 23))]) d_LW_day_17 (by decide) rfl ?_
  have T2 : hK h2 (A9 n) = 20 ∧ hL h2 (A9 n) = sc ∧ ∀ j, j < 0 → hI h2 (A9 n) j = P_told sc L j := by
    obtain ⟨-, t2, t3, -⟩ := f2 n ⟨by omega, Nat.lt_succ_self n⟩ (by omega)
    exact ⟨t2.trans T1.1, t3.trans T1.2, fun j hj => by omega⟩
  refine g_perm [0, 3, 2, 1, 4, 5] rfl ?_
  refine lp_LW_day1 (m := n) hG J hl n27 (fun h3' W3 T3 => ?_) (sc + 1) 0 h2 (by omega) (by omega) W2 T2
  have HL := W3.ok
  refine g_h W3.eq.symm ?_
  refine g_aload_n (pc := 97) d_LW_day_97 rfl 4 rfl ?_
  refine g_th0 (pc := 98) d_LW_day_98 fl_LW_30 HL ?_
  refine g_bipush (pc := 101) (v := 7) d_LW_day_101 (by decide) ?_
  refine g_dup2 (pc := 103) d_LW_day_103 rfl rfl ?_
  refine g_thl (pc := 104) (j := 7) d_LW_day_104 HL (by decide) ?_
  refine g_iconst (pc := 105) (v := 1) d_LW_day_105 (by decide) ?_
  refine g_iadd (pc := 106) d_LW_day_106 ?_
  refine g_ths (pc := 107) (j := 7) d_LW_day_107 HL (by decide) ?_
  refine g_iconst (pc := 108) (v := 0) d_LW_day_108 (by decide) ?_
  refine g_istore (pc := 109) (lv' := [(5, .int (nI 0)), (2, .int (nI sc)), (3, .ref (A9 n)), (4, .int (P_first nw sc ni L)), (0, .ref (A9 22)), (1, .ref (A9 23))]) d_LW_day_109 (by decide) rfl ?_
  refine g_perm [0, 1, 2, 3, 4, 5] rfl ?_
  refine lp_LW_day2 (A := A9) (m := n) (L := sC L (u1 L.1 9 (L.1 9 + 1))) HL ?_ (sc + 1) 0 (by omega) (by omega)
  refine g_iconst (pc := 160) (v := 0) d_LW_day_160 (by decide) ?_
  refine g_istore (pc := 161) (lv' := [(5, .int (nI 0)), (2, .int (nI sc)), (3, .ref (A9 n)), (4, .int (P_first nw sc ni L)), (0, .ref (A9 22)), (1, .ref (A9 23))]) d_LW_day_161 (by decide) rfl ?_
  refine g_perm [0, 1, 2, 3, 4, 5] rfl ?_
  have F3 := W3.2.1.2.2.1
  have al3 := W3.2.2.2.2.2
  have in3 : Ix (n + 1) n := ⟨by omega, Nat.lt_succ_self n⟩
  refine lp_LW_day3 (A := A9) (m := n) (L := P_begin sc L) HL (Lt_begin hl) ⟨?_, ?_, fun j hj => ?_⟩ T3.1 T3.2.1 (fun j hj => ?_) ?_ (sc + 1) 0 (by omega) (by omega)
  · rw [← al3.1]; exact F3.ne in3 (W3.ix (by decide) (by omega)) (by omega)
  · rw [← al3.2.1]; exact F3.ne in3 (W3.ix (by decide) (by omega)) (by omega)
  · rw [← al3.2.2.2 j hj]; exact F3.ne in3 (W3.ix (by omega) (by omega)) (by omega)
  · rw [T3.2.2 j hj]
    unfold P_told
    rw [show (P_begin sc L).2.2 j 12 = L.2.2 j 12 from by
      show (if j < sc then M_drift (L.2.2 j) else L.2.2 j) 12 = _
      rw [if_pos hj]
      exact u1_ne (by decide)]
  refine g_iconst (pc := 338) (v := 0) d_LW_day_338 (by decide) ?_
  refine g_istore (pc := 339) (lv' := [(5, .int (nI 0)), (2, .int (nI sc)), (3, .ref (A9 n)), (4, .int (P_first nw sc ni L)), (0, .ref (A9 22)), (1, .ref (A9 23))]) d_LW_day_339 (by decide) rfl ?_
  refine g_iconst (pc := 341) (v := 0) d_LW_day_341 (by decide) ?_
  refine g_istore (pc := 342) (lv' := [(6, .int (nI 0)), (5, .int (nI 0)), (2, .int (nI sc)), (3, .ref (A9 n)), (4, .int (P_first nw sc ni L)), (0, .ref (A9 22)), (1, .ref (A9 23))]) d_LW_day_342 (by decide) rfl ?_
  refine g_perm [0, 1, 2, 3, 4, 5, 6] rfl ?_
  refine lp_LW_day4 (A := A9) (m := n) (U := T + 1) (vf := (P_day nw sc ni (0, L)).1) (Cf := (P_day nw sc ni (0, L)).2) HL ?_ (ni + 1) 0 0 (P_trade sc (P_begin sc L)) (by omega) (by omega) (Gd_trade (Gd_begin (J.gd hG)) (by omega)) (fun _ z => by unfold P_first; rw [if_neg (by omega)]) rfl
  refine g_aload_n (pc := 404) d_LW_day_404 rfl 5 rfl ?_
  refine g_th0 (pc := 405) d_LW_day_405 fl_LW_30 HL ?_
  refine g_iconst (pc := 408) (v := 5) d_LW_day_408 (by decide) ?_
  refine g_thl (pc := 409) (j := 5) d_LW_day_409 HL (by decide) ?_
  refine g_top (y := nI ni) (Gd_day (q := (0, L)) (J.gd hG) (by omega)).1.2.2.2.2.2.1 ?_
  refine g_if_gt (pc := 410) (tgt := 419) d_LW_day_410 (by decide) (fun c_410 => ?_) (fun c_410 => ?_)
  · skip
    refine g_aload_n (pc := 419) d_LW_day_419 rfl 4 rfl ?_
    refine g_iconst (pc := 420) (v := 1) d_LW_day_420 (by decide) ?_
    refine g_top (y := nI 1) rfl ?_
    refine g_callV (k := 0) (n := 0) (pc := 421) (kz := 11) (nz := 156) (ci := 0) (As := [.int _]) d_LW_day_421 rfl mv_HS_passDays st_LW_day_193 rfl rfl (by decide) (W3.law (L' := (P_day nw sc ni (0, L)).2)).kx rfl rfl (Nat.le_of_ble_eq_true rfl) (wm_HS_passDays (days := 1) (W3.law (L' := (P_day nw sc ni (0, L)).2)) hG (by decide) (by decide) (by decide)) (fun _ _ z => z.elim) (fun v h4 hv => ?_)
    obtain ⟨rfl, γ4, W4, f4⟩ := hv
    have HL4 := W4.ok
    refine g_h W4.eq.symm ?_
    refine g_iload (pc := 424) d_LW_day_424 0 rfl ?_
    refine g_icmp_ne (pc := 426) (tgt := 441) d_LW_day_426 (by decide) (fun c_426 => ?_) (fun c_426 => ?_)
    · exact absurd (by rw [hv9]) c_426
    · skip
      refine g_aload_n (pc := 429) d_LW_day_429 rfl 4 rfl ?_
      refine g_aload_n (pc := 430) d_LW_day_430 rfl 5 rfl ?_
      refine g_cS1 (pc := 431) (As := [.ref _, .ref _]) d_LW_day_431 rfl ms_LW_same st_LW_day_196 rfl rfl (Nat.le_of_ble_eq_true rfl) (cl_LW_same HL4 (W4.law (L' := (P_day nw sc ni (0, L)).2)) p9.2.1 p9.1 p9.2.2.1) ?_
      refine g_if_eq (pc := 434) (tgt := 441) d_LW_day_434 (by decide) (fun c_434 => ?_) (fun c_434 => ?_)
      · exact absurd c_434 (by decide)
      · skip
        refine g_iconst (pc := 437) (v := 1) d_LW_day_437 (by decide) ?_
        refine g_goto (pc := 438) (tgt := 442) d_LW_day_438 (by decide) ?_
        refine g_zret (pc := 442) d_LW_day_442 rfl rfl ?_
        refine ⟨rfl, γ4, ?_⟩
        have W5 := W4.law (L' := (P_day nw sc ni (0, L)).2)
        revert W5
        generalize wT h4 (A9 23) sc (P_day nw sc ni (0, L)).2 = h5
        intro W5
        rw [hA9] at W5
        exact W5.drop n27
  · skip
    have n0 : ni = 0 := by
      rcases Nat.eq_zero_or_pos ni with e | e
      · exact e
      · exact absurd (Int32.not_lt.mp c_410) (fun z => absurd ((nI_leI9 (a := ni) (b := 0) (by omega) (by decide)).mp z) (by omega))
    refine g_iload (pc := 413) d_LW_day_413 3 rfl ?_
    refine g_iconst (pc := 415) (v := (-1)) d_LW_day_415 (by decide) ?_
    refine g_icmp_ne (pc := 416) (tgt := 441) d_LW_day_416 (by decide) (fun c_416 => ?_) (fun c_416 => ?_)
    · exact absurd (show P_first nw sc ni L = -1 by unfold P_first; rw [if_pos n0]) c_416
    · skip
      refine g_aload_n (pc := 419) d_LW_day_419 rfl 4 rfl ?_
      refine g_iconst (pc := 420) (v := 1) d_LW_day_420 (by decide) ?_
      refine g_top (y := nI 1) rfl ?_
      refine g_callV (k := 0) (n := 0) (pc := 421) (kz := 11) (nz := 156) (ci := 0) (As := [.int _]) d_LW_day_421 rfl mv_HS_passDays st_LW_day_193 rfl rfl (by decide) (W3.law (L' := (P_day nw sc ni (0, L)).2)).kx rfl rfl (Nat.le_of_ble_eq_true rfl) (wm_HS_passDays (days := 1) (W3.law (L' := (P_day nw sc ni (0, L)).2)) hG (by decide) (by decide) (by decide)) (fun _ _ z => z.elim) (fun v h4 hv => ?_)
      obtain ⟨rfl, γ4, W4, f4⟩ := hv
      have HL4 := W4.ok
      refine g_h W4.eq.symm ?_
      refine g_iload (pc := 424) d_LW_day_424 0 rfl ?_
      refine g_icmp_ne (pc := 426) (tgt := 441) d_LW_day_426 (by decide) (fun c_426 => ?_) (fun c_426 => ?_)
      · exact absurd (by rw [hv9]) c_426
      · skip
        refine g_aload_n (pc := 429) d_LW_day_429 rfl 4 rfl ?_
        refine g_aload_n (pc := 430) d_LW_day_430 rfl 5 rfl ?_
        refine g_cS1 (pc := 431) (As := [.ref _, .ref _]) d_LW_day_431 rfl ms_LW_same st_LW_day_196 rfl rfl (Nat.le_of_ble_eq_true rfl) (cl_LW_same HL4 (W4.law (L' := (P_day nw sc ni (0, L)).2)) p9.2.1 p9.1 p9.2.2.1) ?_
        refine g_if_eq (pc := 434) (tgt := 441) d_LW_day_434 (by decide) (fun c_434 => ?_) (fun c_434 => ?_)
        · exact absurd c_434 (by decide)
        · skip
          refine g_iconst (pc := 437) (v := 1) d_LW_day_437 (by decide) ?_
          refine g_goto (pc := 438) (tgt := 442) d_LW_day_438 (by decide) ?_
          refine g_zret (pc := 442) d_LW_day_442 rfl rfl ?_
          refine ⟨rfl, γ4, ?_⟩
          have W5 := W4.law (L' := (P_day nw sc ni (0, L)).2)
          revert W5
          generalize wT h4 (A9 23) sc (P_day nw sc ni (0, L)).2 = h5
          intro W5
          rw [hA9] at W5
          exact W5.drop n27
