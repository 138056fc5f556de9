/-! THE LAW: begun -/
set_option maxRecDepth 40000 in
theorem cl_LW_begun {E : En} {h : Hp} {A γ : Nat → Nat} {V0 : Bu} {nw0 sc0 ni0 U0 : Nat} (hX : eXl E < 2 ^ 31) (c : CS h A γ 23) (ci : ∃ k nx, CI h A k nx) (h15 : hI h (A 15) 1 = nI 0) (hb : ∃ b, hR h (A 22) 2 = some b ∧ vB h b = V0) (hV : Gd V0 nw0 sc0 ni0 U0) : CT E m_LW_begun [.ref (A 22), .ref (eXa E)] h 400 130000 (BgP (A 22)) noX := by
  refine ct_of rfl (by decide +kernel) (Nat.le_of_ble_eq_true rfl) ?_
  show G E m_LW_begun 0 [(0, .ref (A 22)), (1, .ref (eXa E))] [] h 400 130000 _ noX
  obtain ⟨pk, hpk0⟩ := pk_ex (E := E) hX
  have pp : Pk pk := fun k n a b c => (hpk0 k n a b c).1
  have hpk := fun k n a b c => (hpk0 k n a b c).2
  have p7 := pp 7 4 (by decide) (by decide) (by decide)
  have p8 := pp 8 6 (by decide) (by decide) (by decide)
  refine G.mono (k := 390 + 1) (n := 129900 + cNf 7) (by decide) (by decide) ?_
  refine g_new (pc := 0) (ci := 7) d_LW_begun_0 cl_LW_begun_27 (by decide) (fun lb hlb => ?_)
  have kb : hK (hNew h lb 8 0) lb = 8 := by show u1 (hK h) lb 8 lb = 8; rw [u1_same]
  refine g_dup (pc := 3) d_LW_begun_3 rfl ?_
  refine g_callIN (k := 389) (n := 129890) (kz := 1) (nz := 10) (pc := 4) (As := []) (b := lb) d_LW_begun_4 rfl mi_LB_init st_LW_begun_29 rfl rfl (Nat.le_of_ble_eq_true rfl) (cl_LB_init kb) (fun _ _ z => z.elim) (fun v h1 z => ?_)
  obtain ⟨ha, hh, rfl, rfl⟩ := z
  obtain ⟨nhl, hh0⟩ := fresh_new (by decide) hh
  have e1 : Ext h (sR (hNew (hNew h lb 8 0) ha 20 10) lb 0 (some ha)) := ((Ext.r.new hlb).new hh).sR hlb
  have k_lb : hK (sR (hNew (hNew h lb 8 0) ha 20 10) lb 0 (some ha)) lb = 8 := by
    show u1 (hK (hNew h lb 8 0)) ha 20 lb = 8
    rw [u1_ne (Ne.symm nhl)]; exact kb
  have r_lb_0 : hR (sR (hNew (hNew h lb 8 0) ha 20 10) lb 0 (some ha)) lb 0 = some ha := by rw [hR_sR, if_pos ⟨rfl, rfl⟩]
  have k_ha : hK (sR (hNew (hNew h lb 8 0) ha 20 10) lb 0 (some ha)) ha = 20 := by show u1 (hK (hNew h lb 8 0)) ha 20 ha = 20; rw [u1_same]
  have l_ha : hL (sR (hNew (hNew h lb 8 0) ha 20 10) lb 0 (some ha)) ha = 10 := by show u1 (hL (hNew h lb 8 0)) ha 10 ha = 10; rw [u1_same]
  have i_ha : hI (sR (hNew (hNew h lb 8 0) ha 20 10) lb 0 (some ha)) ha = fun _ => 0 := by show u1 (hI (hNew h lb 8 0)) ha (fun _ => 0) ha = _; rw [u1_same]
  clear kb hh
  revert e1 k_lb r_lb_0 k_ha l_ha i_ha
  generalize sR (hNew (hNew h lb 8 0) ha 20 10) lb 0 (some ha) = H1
  intro e1 k_lb r_lb_0 k_ha l_ha i_ha
  refine g_h (sA_self9 H1 ha).symm ?_
  rw [i_ha]
  refine g_astore_n (pc := 7) (lv' := [(2, .ref lb), (0, .ref (A 22)), (1, .ref (eXa E))]) d_LW_begun_7 rfl (by decide) rfl ?_
  refine g_aload_n (pc := 8) d_LW_begun_8 rfl 0 rfl ?_
  refine g_getR (pc := 9) (ci := 7) (f := 0) (b := ha) rfl r_lb_0 d_LW_begun_9 fl_LW_30 (by decide) k_lb ?_
  refine g_iconst (pc := 12) (v := 0) d_LW_begun_12 (by decide) ?_
  refine g_aload_n (pc := 13) d_LW_begun_13 rfl 2 rfl ?_
  refine g_iconst (pc := 14) (v := 0) d_LW_begun_14 (by decide) ?_
  refine g_bipush (pc := 15) (v := 30) d_LW_begun_15 (by decide) ?_
  refine g_top (y := nI 30) rfl ?_
  refine g_top2 (y := nI 0) rfl ?_
  refine g_cS1 (pc := 17) (As := [.ref _, .int _, .int _]) d_LW_begun_17 rfl ms_LW_pick st_LW_begun_34 rfl rfl (Nat.le_of_ble_eq_true rfl) (hpk 0 30 (by decide) (by decide) (by decide) _) ?_
  refine g_top (y := nI (hsP pk 0)) rfl ?_
  refine g_iastoreX (pc := 20) (j := 0) d_LW_begun_20 k_ha (by show 0 < hL H1 ha; rw [l_ha]; decide) (by show hL H1 ha < _; rw [l_ha]; decide) ?_
  refine g_h ((sI_sA _ _ _ _).trans ((congrArg (fun f => sA _ ha (u1 f 0 _)) (hI_sA_same _ _ _)).trans (sA_sA _ _ _ _))) ?_
  refine g_aload_n (pc := 21) d_LW_begun_21 rfl 0 rfl ?_
  refine g_getR (pc := 22) (ci := 7) (f := 0) (b := ha) rfl r_lb_0 d_LW_begun_22 fl_LW_30 (by decide) k_lb ?_
  refine g_iconst (pc := 25) (v := 1) d_LW_begun_25 (by decide) ?_
  refine g_aload_n (pc := 26) d_LW_begun_26 rfl 2 rfl ?_
  refine g_iconst (pc := 27) (v := 1) d_LW_begun_27 (by decide) ?_
  refine g_bipush (pc := 28) (v := 30) d_LW_begun_28 (by decide) ?_
  refine g_top (y := nI 30) rfl ?_
  refine g_top2 (y := nI 1) rfl ?_
  refine g_cS1 (pc := 30) (As := [.ref _, .int _, .int _]) d_LW_begun_30 rfl ms_LW_pick st_LW_begun_34 rfl rfl (Nat.le_of_ble_eq_true rfl) (hpk 1 30 (by decide) (by decide) (by decide) _) ?_
  refine g_top (y := nI (hsP pk 1)) rfl ?_
  refine g_iastoreX (pc := 33) (j := 1) d_LW_begun_33 k_ha (by show 1 < hL H1 ha; rw [l_ha]; decide) (by show hL H1 ha < _; rw [l_ha]; decide) ?_
  refine g_h ((sI_sA _ _ _ _).trans ((congrArg (fun f => sA _ ha (u1 f 1 _)) (hI_sA_same _ _ _)).trans (sA_sA _ _ _ _))) ?_
  refine g_aload_n (pc := 34) d_LW_begun_34 rfl 0 rfl ?_
  refine g_getR (pc := 35) (ci := 7) (f := 0) (b := ha) rfl r_lb_0 d_LW_begun_35 fl_LW_30 (by decide) k_lb ?_
  refine g_iconst (pc := 38) (v := 2) d_LW_begun_38 (by decide) ?_
  refine g_aload_n (pc := 39) d_LW_begun_39 rfl 2 rfl ?_
  refine g_iconst (pc := 40) (v := 2) d_LW_begun_40 (by decide) ?_
  refine g_bipush (pc := 41) (v := 20) d_LW_begun_41 (by decide) ?_
  refine g_top (y := nI 20) rfl ?_
  refine g_top2 (y := nI 2) rfl ?_
  refine g_cS1 (pc := 43) (As := [.ref _, .int _, .int _]) d_LW_begun_43 rfl ms_LW_pick st_LW_begun_34 rfl rfl (Nat.le_of_ble_eq_true rfl) (hpk 2 20 (by decide) (by decide) (by decide) _) ?_
  refine g_top (y := nI (hsP pk 2)) rfl ?_
  refine g_iastoreX (pc := 46) (j := 2) d_LW_begun_46 k_ha (by show 2 < hL H1 ha; rw [l_ha]; decide) (by show hL H1 ha < _; rw [l_ha]; decide) ?_
  refine g_h ((sI_sA _ _ _ _).trans ((congrArg (fun f => sA _ ha (u1 f 2 _)) (hI_sA_same _ _ _)).trans (sA_sA _ _ _ _))) ?_
  refine g_aload_n (pc := 47) d_LW_begun_47 rfl 0 rfl ?_
  refine g_getR (pc := 48) (ci := 7) (f := 0) (b := ha) rfl r_lb_0 d_LW_begun_48 fl_LW_30 (by decide) k_lb ?_
  refine g_iconst (pc := 51) (v := 3) d_LW_begun_51 (by decide) ?_
  refine g_iconst (pc := 52) (v := 1) d_LW_begun_52 (by decide) ?_
  refine g_aload_n (pc := 53) d_LW_begun_53 rfl 2 rfl ?_
  refine g_iconst (pc := 54) (v := 3) d_LW_begun_54 (by decide) ?_
  refine g_bipush (pc := 55) (v := 30) d_LW_begun_55 (by decide) ?_
  refine g_top (y := nI 30) rfl ?_
  refine g_top2 (y := nI 3) rfl ?_
  refine g_cS1 (pc := 57) (As := [.ref _, .int _, .int _]) d_LW_begun_57 rfl ms_LW_pick st_LW_begun_34 rfl rfl (Nat.le_of_ble_eq_true rfl) (hpk 3 30 (by decide) (by decide) (by decide) _) ?_
  refine g_iadd (pc := 60) d_LW_begun_60 ?_
  refine g_top (y := nI (hsP pk 3)) (nI_add 1 _) ?_
  refine g_iastoreX (pc := 61) (j := 3) d_LW_begun_61 k_ha (by show 3 < hL H1 ha; rw [l_ha]; decide) (by show hL H1 ha < _; rw [l_ha]; decide) ?_
  refine g_h ((sI_sA _ _ _ _).trans ((congrArg (fun f => sA _ ha (u1 f 3 _)) (hI_sA_same _ _ _)).trans (sA_sA _ _ _ _))) ?_
  refine g_aload_n (pc := 62) d_LW_begun_62 rfl 0 rfl ?_
  refine g_getR (pc := 63) (ci := 7) (f := 0) (b := ha) rfl r_lb_0 d_LW_begun_63 fl_LW_30 (by decide) k_lb ?_
  refine g_iconst (pc := 66) (v := 4) d_LW_begun_66 (by decide) ?_
  refine g_iconst (pc := 67) (v := 1) d_LW_begun_67 (by decide) ?_
  refine g_aload_n (pc := 68) d_LW_begun_68 rfl 2 rfl ?_
  refine g_iconst (pc := 69) (v := 4) d_LW_begun_69 (by decide) ?_
  refine g_bipush (pc := 70) (v := 50) d_LW_begun_70 (by decide) ?_
  refine g_top (y := nI 50) rfl ?_
  refine g_top2 (y := nI 4) rfl ?_
  refine g_cS1 (pc := 72) (As := [.ref _, .int _, .int _]) d_LW_begun_72 rfl ms_LW_pick st_LW_begun_34 rfl rfl (Nat.le_of_ble_eq_true rfl) (hpk 4 50 (by decide) (by decide) (by decide) _) ?_
  refine g_iadd (pc := 75) d_LW_begun_75 ?_
  refine g_top (y := nI (hsP pk 4)) (nI_add 1 _) ?_
  refine g_iastoreX (pc := 76) (j := 4) d_LW_begun_76 k_ha (by show 4 < hL H1 ha; rw [l_ha]; decide) (by show hL H1 ha < _; rw [l_ha]; decide) ?_
  refine g_h ((sI_sA _ _ _ _).trans ((congrArg (fun f => sA _ ha (u1 f 4 _)) (hI_sA_same _ _ _)).trans (sA_sA _ _ _ _))) ?_
  refine g_aload_n (pc := 77) d_LW_begun_77 rfl 0 rfl ?_
  refine g_getR (pc := 78) (ci := 7) (f := 0) (b := ha) rfl r_lb_0 d_LW_begun_78 fl_LW_30 (by decide) k_lb ?_
  refine g_iconst (pc := 81) (v := 5) d_LW_begun_81 (by decide) ?_
  refine g_aload_n (pc := 82) d_LW_begun_82 rfl 2 rfl ?_
  refine g_iconst (pc := 83) (v := 5) d_LW_begun_83 (by decide) ?_
  refine g_iconst (pc := 84) (v := 4) d_LW_begun_84 (by decide) ?_
  refine g_top (y := nI 4) rfl ?_
  refine g_top2 (y := nI 5) rfl ?_
  refine g_cS1 (pc := 85) (As := [.ref _, .int _, .int _]) d_LW_begun_85 rfl ms_LW_pick st_LW_begun_34 rfl rfl (Nat.le_of_ble_eq_true rfl) (hpk 5 4 (by decide) (by decide) (by decide) _) ?_
  refine g_top (y := nI (hsP pk 5)) rfl ?_
  refine g_iastoreX (pc := 88) (j := 5) d_LW_begun_88 k_ha (by show 5 < hL H1 ha; rw [l_ha]; decide) (by show hL H1 ha < _; rw [l_ha]; decide) ?_
  refine g_h ((sI_sA _ _ _ _).trans ((congrArg (fun f => sA _ ha (u1 f 5 _)) (hI_sA_same _ _ _)).trans (sA_sA _ _ _ _))) ?_
  refine g_aload_n (pc := 89) d_LW_begun_89 rfl 0 rfl ?_
  refine g_getR (pc := 90) (ci := 7) (f := 0) (b := ha) rfl r_lb_0 d_LW_begun_90 fl_LW_30 (by decide) k_lb ?_
  refine g_bipush (pc := 93) (v := 6) d_LW_begun_93 (by decide) ?_
  refine g_bipush (pc := 95) (v := 16) d_LW_begun_95 (by decide) ?_
  refine g_aload_n (pc := 97) d_LW_begun_97 rfl 2 rfl ?_
  refine g_bipush (pc := 98) (v := 6) d_LW_begun_98 (by decide) ?_
  refine g_sipush (pc := 100) (v := 4096) d_LW_begun_100 (by decide) ?_
  refine g_top (y := nI 4096) rfl ?_
  refine g_top2 (y := nI 6) rfl ?_
  refine g_cS1 (pc := 103) (As := [.ref _, .int _, .int _]) d_LW_begun_103 rfl ms_LW_pick st_LW_begun_34 rfl rfl (Nat.le_of_ble_eq_true rfl) (hpk 6 4096 (by decide) (by decide) (by decide) _) ?_
  refine g_imul (pc := 106) d_LW_begun_106 ?_
  refine g_top (y := nI (hsP pk 6)) (nI_mul 16 _) ?_
  refine g_iastoreX (pc := 107) (j := 6) d_LW_begun_107 k_ha (by show 6 < hL H1 ha; rw [l_ha]; decide) (by show hL H1 ha < _; rw [l_ha]; decide) ?_
  refine g_h ((sI_sA _ _ _ _).trans ((congrArg (fun f => sA _ ha (u1 f 6 _)) (hI_sA_same _ _ _)).trans (sA_sA _ _ _ _))) ?_
  have e2 := e1.sA (f := (u1 (u1 (u1 (u1 (u1 (u1 (u1 (fun _ => (0 : Int32)) 0 (nI (hsP pk 0))) 1 (nI (hsP pk 1))) 2 (nI (hsP pk 2))) 3 (nI (hsP pk 3))) 4 (nI (hsP pk 4))) 5 (nI (hsP pk 5))) 6 (nI (hsP pk 6)))) hh0
  have vv : ∀ j, j < 10 → hI (sA H1 ha (u1 (u1 (u1 (u1 (u1 (u1 (u1 (fun _ => (0 : Int32)) 0 (nI (hsP pk 0))) 1 (nI (hsP pk 1))) 2 (nI (hsP pk 2))) 3 (nI (hsP pk 3))) 4 (nI (hsP pk 4))) 5 (nI (hsP pk 5))) 6 (nI (hsP pk 6)))) ha j = hwP pk j := fun j hj => by
    rw [hI_sA_same]
    have hx : j = 0 ∨ j = 1 ∨ j = 2 ∨ j = 3 ∨ j = 4 ∨ j = 5 ∨ j = 6 ∨ j = 7 ∨ j = 8 ∨ j = 9 := by omega
    rcases hx with rfl | rfl | rfl | rfl | rfl | rfl | rfl | rfl | rfl | rfl <;> rfl
  have k_lb : hK (sA H1 ha (u1 (u1 (u1 (u1 (u1 (u1 (u1 (fun _ => (0 : Int32)) 0 (nI (hsP pk 0))) 1 (nI (hsP pk 1))) 2 (nI (hsP pk 2))) 3 (nI (hsP pk 3))) 4 (nI (hsP pk 4))) 5 (nI (hsP pk 5))) 6 (nI (hsP pk 6)))) lb = 8 := k_lb
  have r_lb_0 : hR (sA H1 ha (u1 (u1 (u1 (u1 (u1 (u1 (u1 (fun _ => (0 : Int32)) 0 (nI (hsP pk 0))) 1 (nI (hsP pk 1))) 2 (nI (hsP pk 2))) 3 (nI (hsP pk 3))) 4 (nI (hsP pk 4))) 5 (nI (hsP pk 5))) 6 (nI (hsP pk 6)))) lb 0 = some ha := r_lb_0
  have k_ha : hK (sA H1 ha (u1 (u1 (u1 (u1 (u1 (u1 (u1 (fun _ => (0 : Int32)) 0 (nI (hsP pk 0))) 1 (nI (hsP pk 1))) 2 (nI (hsP pk 2))) 3 (nI (hsP pk 3))) 4 (nI (hsP pk 4))) 5 (nI (hsP pk 5))) 6 (nI (hsP pk 6)))) ha = 20 := k_ha
  have l_ha : hL (sA H1 ha (u1 (u1 (u1 (u1 (u1 (u1 (u1 (fun _ => (0 : Int32)) 0 (nI (hsP pk 0))) 1 (nI (hsP pk 1))) 2 (nI (hsP pk 2))) 3 (nI (hsP pk 3))) 4 (nI (hsP pk 4))) 5 (nI (hsP pk 5))) 6 (nI (hsP pk 6)))) ha = 10 := l_ha
  clear i_ha e1
  revert e2 vv k_lb r_lb_0 k_ha l_ha
  generalize sA H1 ha (u1 (u1 (u1 (u1 (u1 (u1 (u1 (fun _ => (0 : Int32)) 0 (nI (hsP pk 0))) 1 (nI (hsP pk 1))) 2 (nI (hsP pk 2))) 3 (nI (hsP pk 3))) 4 (nI (hsP pk 4))) 5 (nI (hsP pk 5))) 6 (nI (hsP pk 6))) = H2
  intro e2 vv k_lb r_lb_0 k_ha l_ha
  refine g_aload_n (pc := 108) d_LW_begun_108 rfl 0 rfl ?_
  refine g_iconst (pc := 109) (v := 1) d_LW_begun_109 (by decide) ?_
  refine g_aload_n (pc := 110) d_LW_begun_110 rfl 2 rfl ?_
  refine g_bipush (pc := 111) (v := 7) d_LW_begun_111 (by decide) ?_
  refine g_iconst (pc := 113) (v := 4) d_LW_begun_113 (by decide) ?_
  refine g_top (y := nI 4) rfl ?_
  refine g_top2 (y := nI 7) rfl ?_
  refine g_cS1 (pc := 114) (As := [.ref _, .int _, .int _]) d_LW_begun_114 rfl ms_LW_pick st_LW_begun_34 rfl rfl (Nat.le_of_ble_eq_true rfl) (hpk 7 4 (by decide) (by decide) (by decide) _) ?_
  refine g_iadd (pc := 117) d_LW_begun_117 ?_
  refine g_top (y := nI (1 + pk 7 4)) (nI_add 1 _) ?_
  refine G.mono (k := 380 + 1) (n := 129000 + (1 + pk 7 4)) (by decide) (by omega) ?_
  refine g_newarray (pc := 118) (kd := 20) (N := 1 + pk 7 4) d_LW_begun_118 ⟨by decide, by decide⟩ rfl ac_i (lt0 (by omega)) (nI_clamp (by omega)) (by show (1 + pk 7 4) * 4 ≤ _; omega) (fun wt hwt => ?_)
  refine g_putR (pc := 120) (ci := 7) (f := 1) rfl d_LW_begun_120 fl_LW_40 (fun q hq => by cases hq; exact rfl) rfl rfl (by decide) (by show u1 (hK H2) wt 20 lb = 8; rw [u1_ne (fun z => by rw [← z] at hwt; omega)]; exact k_lb) ?_
  have nwl : lb ≠ wt := fun z => by rw [← z] at hwt; omega
  have nwh : ha ≠ wt := fun z => by rw [← z] at hwt; omega
  have e3 : Ext h (sR (hNew H2 wt 20 (1 + pk 7 4)) lb 1 (some wt)) := (e2.new hwt).sR hlb
  have k_lb : hK (sR (hNew H2 wt 20 (1 + pk 7 4)) lb 1 (some wt)) lb = 8 := by show u1 (hK H2) wt 20 lb = 8; rw [u1_ne nwl]; exact k_lb
  have r_lb_0 : hR (sR (hNew H2 wt 20 (1 + pk 7 4)) lb 1 (some wt)) lb 0 = some ha := by
    rw [hR_sR, if_neg (fun z => absurd z.2 (by decide))]
    show u1 (hR H2) wt (fun _ => none) lb 0 = some ha
    rw [u1_ne nwl]; exact r_lb_0
  have r_lb_1 : hR (sR (hNew H2 wt 20 (1 + pk 7 4)) lb 1 (some wt)) lb 1 = some wt := by rw [hR_sR, if_pos ⟨rfl, rfl⟩]
  have k_ha : hK (sR (hNew H2 wt 20 (1 + pk 7 4)) lb 1 (some wt)) ha = 20 := by show u1 (hK H2) wt 20 ha = 20; rw [u1_ne nwh]; exact k_ha
  have l_ha : hL (sR (hNew H2 wt 20 (1 + pk 7 4)) lb 1 (some wt)) ha = 10 := by show u1 (hL H2) wt _ ha = 10; rw [u1_ne nwh]; exact l_ha
  have vv : ∀ j, j < 10 → hI (sR (hNew H2 wt 20 (1 + pk 7 4)) lb 1 (some wt)) ha j = hwP pk j := fun j hj => by show u1 (hI H2) wt (fun _ => 0) ha j = _; rw [u1_ne nwh]; exact vv j hj
  have k_wt : hK (sR (hNew H2 wt 20 (1 + pk 7 4)) lb 1 (some wt)) wt = 20 := by show u1 (hK H2) wt 20 wt = 20; rw [u1_same]
  have l_wt : hL (sR (hNew H2 wt 20 (1 + pk 7 4)) lb 1 (some wt)) wt = 1 + pk 7 4 := by show u1 (hL H2) wt _ wt = _; rw [u1_same]
  have hwt0 := e2.fresh hwt
  clear e2 hwt
  revert e3 k_lb r_lb_0 r_lb_1 k_ha l_ha vv k_wt l_wt
  generalize sR (hNew H2 wt 20 (1 + pk 7 4)) lb 1 (some wt) = H3
  intro e3 k_lb r_lb_0 r_lb_1 k_ha l_ha vv k_wt l_wt
  refine g_aload_n (pc := 123) d_LW_begun_123 rfl 0 rfl ?_
  refine g_iconst (pc := 124) (v := 1) d_LW_begun_124 (by decide) ?_
  refine g_aload_n (pc := 125) d_LW_begun_125 rfl 2 rfl ?_
  refine g_bipush (pc := 126) (v := 8) d_LW_begun_126 (by decide) ?_
  refine g_bipush (pc := 128) (v := 6) d_LW_begun_128 (by decide) ?_
  refine g_top (y := nI 6) rfl ?_
  refine g_top2 (y := nI 8) rfl ?_
  refine g_cS1 (pc := 130) (As := [.ref _, .int _, .int _]) d_LW_begun_130 rfl ms_LW_pick st_LW_begun_34 rfl rfl (Nat.le_of_ble_eq_true rfl) (hpk 8 6 (by decide) (by decide) (by decide) _) ?_
  refine g_iadd (pc := 133) d_LW_begun_133 ?_
  refine g_top (y := nI (1 + pk 8 6)) (nI_add 1 _) ?_
  refine G.mono (k := 370 + 1) (n := 128000 + (1 + pk 8 6)) (by decide) (by omega) ?_
  refine g_anewarrayT (pc := 134) (kd := 27) (N := 1 + pk 8 6) d_LW_begun_134 ⟨rfl, rfl⟩ (tg_3 23 rfl rfl) (lt0 (by omega)) (nI_clamp (by omega)) (by omega) (fun sp hsp => ?_)
  refine g_putR (pc := 137) (ci := 7) (f := 2) rfl d_LW_begun_137 fl_LW_45 (fun q hq => by cases hq; exact rfl) rfl rfl (by decide) (by show u1 (hK H3) sp 27 lb = 8; rw [u1_ne (fun z => by rw [← z] at hsp; omega)]; exact k_lb) ?_
  have nsl : lb ≠ sp := fun z => by rw [← z] at hsp; omega
  have nsh : ha ≠ sp := fun z => by rw [← z] at hsp; omega
  have nsw : wt ≠ sp := fun z => by rw [← z] at hsp; omega
  have e4 : Ext h (sR (hNew H3 sp 27 (1 + pk 8 6)) lb 2 (some sp)) := (e3.new hsp).sR hlb
  have k_lb : hK (sR (hNew H3 sp 27 (1 + pk 8 6)) lb 2 (some sp)) lb = 8 := by show u1 (hK H3) sp 27 lb = 8; rw [u1_ne nsl]; exact k_lb
  have r_lb_0 : hR (sR (hNew H3 sp 27 (1 + pk 8 6)) lb 2 (some sp)) lb 0 = some ha := by
    rw [hR_sR, if_neg (fun z => absurd z.2 (by decide))]
    show u1 (hR H3) sp (fun _ => none) lb 0 = some ha
    rw [u1_ne nsl]; exact r_lb_0
  have r_lb_1 : hR (sR (hNew H3 sp 27 (1 + pk 8 6)) lb 2 (some sp)) lb 1 = some wt := by
    rw [hR_sR, if_neg (fun z => absurd z.2 (by decide))]
    show u1 (hR H3) sp (fun _ => none) lb 1 = some wt
    rw [u1_ne nsl]; exact r_lb_1
  have r_lb_2 : hR (sR (hNew H3 sp 27 (1 + pk 8 6)) lb 2 (some sp)) lb 2 = some sp := by rw [hR_sR, if_pos ⟨rfl, rfl⟩]
  have k_ha : hK (sR (hNew H3 sp 27 (1 + pk 8 6)) lb 2 (some sp)) ha = 20 := by show u1 (hK H3) sp 27 ha = 20; rw [u1_ne nsh]; exact k_ha
  have l_ha : hL (sR (hNew H3 sp 27 (1 + pk 8 6)) lb 2 (some sp)) ha = 10 := by show u1 (hL H3) sp _ ha = 10; rw [u1_ne nsh]; exact l_ha
  have vv : ∀ j, j < 10 → hI (sR (hNew H3 sp 27 (1 + pk 8 6)) lb 2 (some sp)) ha j = hwP pk j := fun j hj => by show u1 (hI H3) sp (fun _ => 0) ha j = _; rw [u1_ne nsh]; exact vv j hj
  have k_wt : hK (sR (hNew H3 sp 27 (1 + pk 8 6)) lb 2 (some sp)) wt = 20 := by show u1 (hK H3) sp 27 wt = 20; rw [u1_ne nsw]; exact k_wt
  have l_wt : hL (sR (hNew H3 sp 27 (1 + pk 8 6)) lb 2 (some sp)) wt = 1 + pk 7 4 := by show u1 (hL H3) sp _ wt = _; rw [u1_ne nsw]; exact l_wt
  have k_sp : hK (sR (hNew H3 sp 27 (1 + pk 8 6)) lb 2 (some sp)) sp = 27 := by show u1 (hK H3) sp 27 sp = 27; rw [u1_same]
  have l_sp : hL (sR (hNew H3 sp 27 (1 + pk 8 6)) lb 2 (some sp)) sp = 1 + pk 8 6 := by show u1 (hL H3) sp _ sp = _; rw [u1_same]
  have hsp0 := e3.fresh hsp
  clear e3 hsp
  revert e4 k_lb r_lb_0 r_lb_1 r_lb_2 k_ha l_ha vv k_wt l_wt k_sp l_sp
  generalize sR (hNew H3 sp 27 (1 + pk 8 6)) lb 2 (some sp) = H4
  intro e4 k_lb r_lb_0 r_lb_1 r_lb_2 k_ha l_ha vv k_wt l_wt k_sp l_sp
  obtain ⟨A', B, hx', hlb'⟩ := BG0 (gw := fun j => nI (gsP pk j)) (tv := tvP pk) c ci h15 hb e4 ⟨hlb, hh0, hwt0, hsp0⟩ ⟨Ne.symm nhl, nwl, nsl, nwh, nsh, nsw⟩ ⟨k_lb, r_lb_0, r_lb_1, r_lb_2⟩ ⟨k_ha, l_ha⟩ ⟨k_wt, l_wt⟩ ⟨k_sp, l_sp⟩ vv
  refine g_ldcs (pc := 140) d_LW_begun_140 4 rfl ?_
  refine g_astore_n (pc := 142) (lv' := [(3, .ref (eS E 1)), (2, .ref lb), (0, .ref (A 22)), (1, .ref (eXa E))]) d_LW_begun_142 rfl (by decide) rfl ?_
  refine g_iconst (pc := 143) (v := 0) d_LW_begun_143 (by decide) ?_
  refine g_istore (pc := 144) (lv' := [(4, .int (nI 0)), (3, .ref (eS E 1)), (2, .ref lb), (0, .ref (A 22)), (1, .ref (eXa E))]) d_LW_begun_144 (by decide) rfl ?_
  refine g_perm [0, 1, 3, 4, 2] rfl ?_
  exact G.mono (by decide) (by decide) (lp_bg1 pp hpk hV ⟨by omega, by omega⟩ ⟨by omega, by omega⟩ hx' hlb' 8 0 H4 _ (eS E 1) (by decide) (by decide) B (by rw [tA_0]; exact SvL.con (by decide)))
