theorem TF_len {F0 : Nat → Int32} {n j k s e : Nat} {v : Int32} : u1 (TF F0 n k s e v) 1 (nI j) = TF F0 j k s e v := by
  funext q
  simp only [TF, u1_at]
  (repeat' split) <;> (first | rfl | omega)
theorem d_HS_append_0 : decode (mC m_HS_append) 0 = .ok (.aload_n 0, 1) := by decide +kernel
theorem d_HS_append_1 : decode (mC m_HS_append) 1 = .ok (.getfield 20, 3) := by decide +kernel
theorem d_HS_append_4 : decode (mC m_HS_append) 4 = .ok (.getfield 53, 3) := by decide +kernel
theorem d_HS_append_7 : decode (mC m_HS_append) 7 = .ok (.bipush 20, 2) := by decide +kernel
theorem d_HS_append_9 : decode (mC m_HS_append) 9 = .ok (.iadd, 1) := by decide +kernel
theorem d_HS_append_10 : decode (mC m_HS_append) 10 = .ok (.sipush 500, 3) := by decide +kernel
theorem d_HS_append_13 : decode (mC m_HS_append) 13 = .ok (.if_icmp .le 13, 3) := by decide +kernel
theorem d_HS_append_26 : decode (mC m_HS_append) 26 = .ok (.aload_n 0, 1) := by decide +kernel
theorem d_HS_append_27 : decode (mC m_HS_append) 27 = .ok (.getfield 20, 3) := by decide +kernel
theorem d_HS_append_30 : decode (mC m_HS_append) 30 = .ok (.iload_n 1, 1) := by decide +kernel
theorem d_HS_append_31 : decode (mC m_HS_append) 31 = .ok (.invokevirtual 66, 3) := by decide +kernel
theorem d_HS_append_34 : decode (mC m_HS_append) 34 = .ok (.aload_n 0, 1) := by decide +kernel
theorem d_HS_append_35 : decode (mC m_HS_append) 35 = .ok (.getfield 20, 3) := by decide +kernel
theorem d_HS_append_38 : decode (mC m_HS_append) 38 = .ok (.iload_n 2, 1) := by decide +kernel
theorem d_HS_append_39 : decode (mC m_HS_append) 39 = .ok (.invokevirtual 66, 3) := by decide +kernel
theorem d_HS_append_42 : decode (mC m_HS_append) 42 = .ok (.aload_n 0, 1) := by decide +kernel
theorem d_HS_append_43 : decode (mC m_HS_append) 43 = .ok (.getfield 20, 3) := by decide +kernel
theorem d_HS_append_46 : decode (mC m_HS_append) 46 = .ok (.iload_n 3, 1) := by decide +kernel
theorem d_HS_append_47 : decode (mC m_HS_append) 47 = .ok (.invokevirtual 66, 3) := by decide +kernel
theorem d_HS_append_50 : decode (mC m_HS_append) 50 = .ok (.aload_n 0, 1) := by decide +kernel
theorem d_HS_append_51 : decode (mC m_HS_append) 51 = .ok (.getfield 20, 3) := by decide +kernel
theorem d_HS_append_54 : decode (mC m_HS_append) 54 = .ok (.iload 4, 2) := by decide +kernel
theorem d_HS_append_56 : decode (mC m_HS_append) 56 = .ok (.invokevirtual 66, 3) := by decide +kernel
theorem d_HS_append_59 : decode (mC m_HS_append) 59 = .ok (.aload_n 0, 1) := by decide +kernel
theorem d_HS_append_60 : decode (mC m_HS_append) 60 = .ok (.getfield 20, 3) := by decide +kernel
theorem d_HS_append_63 : decode (mC m_HS_append) 63 = .ok (.iload 5, 2) := by decide +kernel
theorem d_HS_append_65 : decode (mC m_HS_append) 65 = .ok (.invokevirtual 66, 3) := by decide +kernel
theorem d_HS_append_68 : decode (mC m_HS_append) 68 = .ok (.aload_n 0, 1) := by decide +kernel
theorem d_HS_append_69 : decode (mC m_HS_append) 69 = .ok (.getfield 20, 3) := by decide +kernel
theorem d_HS_append_72 : decode (mC m_HS_append) 72 = .ok (.getfield 53, 3) := by decide +kernel
theorem d_HS_append_75 : decode (mC m_HS_append) 75 = .ok (.ireturn, 1) := by decide +kernel
theorem d_HS_truncate_0 : decode (mC m_HS_truncate) 0 = .ok (.iload_n 1, 1) := by decide +kernel
theorem d_HS_truncate_1 : decode (mC m_HS_truncate) 1 = .ok (.iconst 0, 1) := by decide +kernel
theorem d_HS_truncate_2 : decode (mC m_HS_truncate) 2 = .ok (.aload_n 0, 1) := by decide +kernel
theorem d_HS_truncate_3 : decode (mC m_HS_truncate) 3 = .ok (.getfield 20, 3) := by decide +kernel
theorem d_HS_truncate_6 : decode (mC m_HS_truncate) 6 = .ok (.getfield 53, 3) := by decide +kernel
theorem d_HS_truncate_9 : decode (mC m_HS_truncate) 9 = .ok (.invokestatic 70, 3) := by decide +kernel
theorem d_HS_truncate_12 : decode (mC m_HS_truncate) 12 = .ok (.aload_n 0, 1) := by decide +kernel
theorem d_HS_truncate_13 : decode (mC m_HS_truncate) 13 = .ok (.getfield 20, 3) := by decide +kernel
theorem d_HS_truncate_16 : decode (mC m_HS_truncate) 16 = .ok (.iload_n 1, 1) := by decide +kernel
theorem d_HS_truncate_17 : decode (mC m_HS_truncate) 17 = .ok (.putfield 53, 3) := by decide +kernel
theorem d_HS_truncate_20 : decode (mC m_HS_truncate) 20 = .ok (.iload_n 1, 1) := by decide +kernel
theorem d_HS_truncate_21 : decode (mC m_HS_truncate) 21 = .ok (.ireturn, 1) := by decide +kernel
set_option maxRecDepth 20000 in
theorem cs_HS_append {E : En} {h : Hp} {x ip bt n : Nat} {F0 T : Nat → Int32} {t : Tk} {R : List (Nat × (Nat → Int32))} {a1 a2 a3 a4 a5 : Int32} (k_x : hK h x = 1) (r_x_1 : hR h x 1 = some ip) (hI9 : InOk h ip bt) (nd : (ip :: bt :: R.map Prod.fst).Nodup) (hn : n + 20 ≤ 500) : CR E m_HS_append [.ref x, .int a1, .int a2, .int a3, .int a4, .int a5] (wL h ((ip, rF F0 n t) :: (bt, T) :: R)) (some (.int (nI (n + 20)))) (wL h ((ip, rF F0 (n + 20) t) :: (bt, (X_four (X_four (X_four (X_four (X_four T n a1) (n + 4) a2) (n + 8) a3) (n + 12) a4) (n + 16) a5)) :: R)) := by
  refine ct_of rfl (by decide +kernel) (Nat.le_of_ble_eq_true rfl) ?_
  show G E m_HS_append 0 [(0, .ref x), (1, .int a1), (2, .int a2), (3, .int a3), (4, .int a4), (5, .int a5)] [] (wL h ((ip, rF F0 n t) :: (bt, T) :: R)) 0 0 _ noX
  obtain ⟨k_ip, r_ip_0, k_bt, l_bt⟩ := id hI9
  refine g_aload_n (pc := 0) d_HS_append_0 rfl 0 rfl ?_
  refine g_getR (pc := 1) (ci := 0) (f := 1) (b := ip) rfl r_x_1 d_HS_append_1 fl_HS_20 (by decide) k_x ?_
  refine g_lgI0 (pc := 4) (ci := 2) (f := 1) rfl d_HS_append_4 fl_HS_53 (by decide) k_ip nd ?_
  refine g_top (y := nI n) rfl ?_
  refine g_bipush (pc := 7) (v := 20) d_HS_append_7 (by decide) ?_
  refine g_iadd (pc := 9) d_HS_append_9 ?_
  refine g_top (y := nI (n + 20)) (nI_add n 20) ?_
  refine g_sipush (pc := 10) (v := 500) d_HS_append_10 (by decide) ?_
  refine g_icmp_le (pc := 13) (tgt := 26) d_HS_append_13 (by decide) (fun c_13 => ?_) (fun c_13 => ?_)
  · skip
    refine g_aload_n (pc := 26) d_HS_append_26 rfl 0 rfl ?_
    refine g_getR (pc := 27) (ci := 0) (f := 1) (b := ip) rfl r_x_1 d_HS_append_27 fl_HS_20 (by decide) k_x ?_
    refine g_iload_n (pc := 30) d_HS_append_30 rfl 1 rfl ?_
    refine g_cV0 (pc := 31) (ci := 2) (As := [.int _]) d_HS_append_31 rfl mv_IN_putFour st_HS_append_66 rfl rfl (by decide) rfl rfl (Nat.le_of_ble_eq_true rfl) k_ip (cx_IN_putFour (n := n) (T := T) (k := t.1) (s := t.2.1) (e := t.2.2.1) (v := t.2.2.2) hI9 nd (by omega)) ?_
    refine g_aload_n (pc := 34) d_HS_append_34 rfl 0 rfl ?_
    refine g_getR (pc := 35) (ci := 0) (f := 1) (b := ip) rfl r_x_1 d_HS_append_35 fl_HS_20 (by decide) k_x ?_
    refine g_iload_n (pc := 38) d_HS_append_38 rfl 2 rfl ?_
    refine g_cV0 (pc := 39) (ci := 2) (As := [.int _]) d_HS_append_39 rfl mv_IN_putFour st_HS_append_66 rfl rfl (by decide) rfl rfl (Nat.le_of_ble_eq_true rfl) k_ip (cx_IN_putFour (n := n + 4) (T := (X_four T n a1)) (k := t.1) (s := t.2.1) (e := t.2.2.1) (v := t.2.2.2) hI9 nd (by omega)) ?_
    refine g_aload_n (pc := 42) d_HS_append_42 rfl 0 rfl ?_
    refine g_getR (pc := 43) (ci := 0) (f := 1) (b := ip) rfl r_x_1 d_HS_append_43 fl_HS_20 (by decide) k_x ?_
    refine g_iload_n (pc := 46) d_HS_append_46 rfl 3 rfl ?_
    refine g_cV0 (pc := 47) (ci := 2) (As := [.int _]) d_HS_append_47 rfl mv_IN_putFour st_HS_append_66 rfl rfl (by decide) rfl rfl (Nat.le_of_ble_eq_true rfl) k_ip (cx_IN_putFour (n := n + 8) (T := (X_four (X_four T n a1) (n + 4) a2)) (k := t.1) (s := t.2.1) (e := t.2.2.1) (v := t.2.2.2) hI9 nd (by omega)) ?_
    refine g_aload_n (pc := 50) d_HS_append_50 rfl 0 rfl ?_
    refine g_getR (pc := 51) (ci := 0) (f := 1) (b := ip) rfl r_x_1 d_HS_append_51 fl_HS_20 (by decide) k_x ?_
    refine g_iload (pc := 54) d_HS_append_54 4 rfl ?_
    refine g_cV0 (pc := 56) (ci := 2) (As := [.int _]) d_HS_append_56 rfl mv_IN_putFour st_HS_append_66 rfl rfl (by decide) rfl rfl (Nat.le_of_ble_eq_true rfl) k_ip (cx_IN_putFour (n := n + 12) (T := (X_four (X_four (X_four T n a1) (n + 4) a2) (n + 8) a3)) (k := t.1) (s := t.2.1) (e := t.2.2.1) (v := t.2.2.2) hI9 nd (by omega)) ?_
    refine g_aload_n (pc := 59) d_HS_append_59 rfl 0 rfl ?_
    refine g_getR (pc := 60) (ci := 0) (f := 1) (b := ip) rfl r_x_1 d_HS_append_60 fl_HS_20 (by decide) k_x ?_
    refine g_iload (pc := 63) d_HS_append_63 5 rfl ?_
    refine g_cV0 (pc := 65) (ci := 2) (As := [.int _]) d_HS_append_65 rfl mv_IN_putFour st_HS_append_66 rfl rfl (by decide) rfl rfl (Nat.le_of_ble_eq_true rfl) k_ip (cx_IN_putFour (n := n + 16) (T := (X_four (X_four (X_four (X_four T n a1) (n + 4) a2) (n + 8) a3) (n + 12) a4)) (k := t.1) (s := t.2.1) (e := t.2.2.1) (v := t.2.2.2) hI9 nd (by omega)) ?_
    refine g_aload_n (pc := 68) d_HS_append_68 rfl 0 rfl ?_
    refine g_getR (pc := 69) (ci := 0) (f := 1) (b := ip) rfl r_x_1 d_HS_append_69 fl_HS_20 (by decide) k_x ?_
    refine g_lgI0 (pc := 72) (ci := 2) (f := 1) rfl d_HS_append_72 fl_HS_53 (by decide) k_ip nd ?_
    refine g_top (y := nI (n + 20)) rfl ?_
    refine g_iret (pc := 75) d_HS_append_75 rfl ?_
    exact ⟨rfl, rfl⟩
  · exact absurd ((nI_leI (a := n + 20) (b := 500) (by omega) (by omega)).mpr hn) c_13
set_option maxRecDepth 20000 in
theorem cs_HS_truncate {E : En} {h : Hp} {x ip bt n : Nat} {F0 T : Nat → Int32} {t : Tk} {R : List (Nat × (Nat → Int32))} {j : Nat} (k_x : hK h x = 1) (r_x_1 : hR h x 1 = some ip) (hI9 : InOk h ip bt) (nd : (ip :: bt :: R.map Prod.fst).Nodup) (hj : j ≤ n) (hn5 : n ≤ 500) : CR E m_HS_truncate [.ref x, .int (nI j)] (wL h ((ip, rF F0 n t) :: (bt, T) :: R)) (some (.int (nI j))) (wL h ((ip, rF F0 j t) :: (bt, T) :: R)) := by
  refine ct_of rfl (by decide +kernel) (Nat.le_of_ble_eq_true rfl) ?_
  show G E m_HS_truncate 0 [(0, .ref x), (1, .int (nI j))] [] (wL h ((ip, rF F0 n t) :: (bt, T) :: R)) 0 0 _ noX
  obtain ⟨k_ip, r_ip_0, k_bt, l_bt⟩ := id hI9
  refine g_iload_n (pc := 0) d_HS_truncate_0 rfl 1 rfl ?_
  refine g_iconst (pc := 1) (v := 0) d_HS_truncate_1 (by decide) ?_
  refine g_aload_n (pc := 2) d_HS_truncate_2 rfl 0 rfl ?_
  refine g_getR (pc := 3) (ci := 0) (f := 1) (b := ip) rfl r_x_1 d_HS_truncate_3 fl_HS_20 (by decide) k_x ?_
  refine g_lgI0 (pc := 6) (ci := 2) (f := 1) rfl d_HS_truncate_6 fl_HS_53 (by decide) k_ip nd ?_
  refine g_top (y := nI n) rfl ?_
  refine g_cS0 (pc := 9) (As := [.int _, .int _, .int _]) d_HS_truncate_9 rfl ms_HS_requireRange st_HS_truncate_70 rfl rfl (Nat.le_of_ble_eq_true rfl) (cs_HS_requireRange ((nI_leI (a := 0) (by omega) (by omega)).mpr (by omega)) ((nI_leI (by omega) (by omega)).mpr hj)) ?_
  refine g_aload_n (pc := 12) d_HS_truncate_12 rfl 0 rfl ?_
  refine g_getR (pc := 13) (ci := 0) (f := 1) (b := ip) rfl r_x_1 d_HS_truncate_13 fl_HS_20 (by decide) k_x ?_
  refine g_iload_n (pc := 16) d_HS_truncate_16 rfl 1 rfl ?_
  refine g_lpI0 (pc := 17) (ci := 2) (f := 1) rfl d_HS_truncate_17 fl_HS_53 (fun q hq => by cases hq; exact rfl) rfl rfl (by decide) k_ip nd ?_
  refine g_iload_n (pc := 20) d_HS_truncate_20 rfl 1 rfl ?_
  refine g_iret (pc := 21) d_HS_truncate_21 rfl ?_
  refine ⟨rfl, ?_⟩
  rw [show u1 (rF F0 n t) 1 (nI j) = rF F0 j t from TF_len]
