/-! THE LAW: seen -/
set_option maxRecDepth 20000 in
theorem lp_se1 {E : En} {h : Hp} {A γ : Nat → Nat} {n nw sc ni T : Nat} {L B : Bu} {k n9 : Nat} {PP : Option Value → Hp → Prop} (W : WS h A γ n nw sc L B) (p : PB nw sc ni T L B) {i : Nat} (hi : i < sc) {xs xr xf : Int32}
    (kk : G E m_LW_seen 174 [(8, .int (nI (P_worst L.1 L.2.1 (L.2.2 i) (nw - 1)))), (7, .ref (tw h (A 23) i)), (6, .int (nI i)), (2, .int xs), (3, .int xr), (4, .int xf), (5, .int (nI sc)), (0, .ref (A 22)), (1, .ref (A 23))] [] (wT h (A 23) sc L) k n9 PP noX) : ∀ (d q : Nat), q ≤ nw → nw - q < d → G E m_LW_seen 39 [(9, .int (nI q)), (8, .int (nI (P_worst L.1 L.2.1 (L.2.2 i) (q - 1)))), (7, .ref (tw h (A 23) i)), (6, .int (nI i)), (2, .int xs), (3, .int xr), (4, .int xf), (5, .int (nI sc)), (0, .ref (A 22)), (1, .ref (A 23))] [] (wT h (A 23) sc L) k n9 PP noX := by
  intro d
  induction d with
  | zero => intros; omega
  | succ d ih =>
    intro q hq hd
    have HL := W.ok
    have s8 := HL.s8
    have n6 := HL.n6
    have W9 := W.law (L' := L)
    obtain ⟨J, hG, hz, -, -, hw9, -⟩ := id p
    refine g_iload (pc := 39) d_LW_seen_39 0 rfl ?_
    refine g_aload_n (pc := 41) d_LW_seen_41 rfl 9 rfl ?_
    refine g_th1 (pc := 42) d_LW_seen_42 fl_LW_40 HL ?_
    refine g_twn (pc := 45) d_LW_seen_45 HL ?_
    refine g_icmp_ge (pc := 46) (tgt := 174) d_LW_seen_46 (by decide) (fun c_46 => ?_) (fun c_46 => ?_)
    · skip
      have eq9 : q = nw := by have := (nI_leI9 (a := nw) (b := q) (by omega) (by omega)).mp c_46; omega
      subst eq9
      refine g_perm [1, 2, 3, 4, 5, 6, 7, 8, 9] rfl ?_
      exact kk
    · skip
      have hq9 : q < nw := Nat.lt_of_not_le (fun z => c_46 ((nI_leI9 (by omega) (by omega)).mpr z))
      refine g_aload_n (pc := 49) d_LW_seen_49 rfl 9 rfl ?_
      refine g_th1 (pc := 50) d_LW_seen_50 fl_LW_40 HL ?_
      refine g_iload (pc := 53) d_LW_seen_53 0 rfl ?_
      refine g_twl (pc := 55) d_LW_seen_55 HL (by first | assumption | omega) ?_
      refine g_istore (pc := 56) (lv' := [(10, .int (L.2.1 q)), (9, .int (nI q)), (8, .int (nI (P_worst L.1 L.2.1 (L.2.2 i) (q - 1)))), (7, .ref (tw h (A 23) i)), (6, .int (nI i)), (2, .int xs), (3, .int xr), (4, .int xf), (5, .int (nI sc)), (0, .ref (A 22)), (1, .ref (A 23))]) d_LW_seen_56 (by decide) rfl ?_
      refine g_aload_n (pc := 58) d_LW_seen_58 rfl 9 rfl ?_
      refine g_iload (pc := 59) d_LW_seen_59 4 rfl ?_
      refine g_iload (pc := 61) d_LW_seen_61 0 rfl ?_
      refine g_cV1 (pc := 63) (ci := 0) (As := [.int _, .int _]) d_LW_seen_63 rfl mv_HS_reading st_LW_seen_291 rfl rfl (by decide) rfl rfl (Nat.le_of_ble_eq_true rfl) W9.kx (wg_HS_reading W9 hG hi (hw9 q hq9).1 (hw9 q hq9).2) ?_
      refine g_top (y := L.2.1 q + M_err (L.2.2 i) (L.2.1 q)) (by rw [M_err_J (J.2.2 i hi)]) ?_
      refine g_iload (pc := 66) d_LW_seen_66 0 rfl ?_
      refine g_aload (pc := 68) d_LW_seen_68 3 rfl ?_
      refine g_iload (pc := 70) d_LW_seen_70 0 rfl ?_
      refine g_cS1 (pc := 72) (As := [.ref _, .int _]) d_LW_seen_72 rfl ms_LW_error st_LW_seen_114 rfl rfl (Nat.le_of_ble_eq_true rfl) (cl_LW_error HL hi) ?_
      refine g_iadd (pc := 75) d_LW_seen_75 ?_
      refine g_icmp_ne (pc := 76) (tgt := 138) d_LW_seen_76 (by decide) (fun c_76 => ?_) (fun c_76 => ?_)
      · exact absurd rfl c_76
      · skip
        refine g_aload_n (pc := 79) d_LW_seen_79 rfl 9 rfl ?_
        refine g_iload (pc := 80) d_LW_seen_80 4 rfl ?_
        refine g_iload (pc := 82) d_LW_seen_82 0 rfl ?_
        refine g_cV1 (pc := 84) (ci := 0) (As := [.int _, .int _]) d_LW_seen_84 rfl mv_HS_excess st_LW_seen_294 rfl rfl (by decide) rfl rfl (Nat.le_of_ble_eq_true rfl) W9.kx (wg_HS_excess W9 hG hi (hw9 q hq9).1 (hw9 q hq9).2) ?_
        refine g_top (y := M_exc L.1 (L.2.2 i) (L.2.1 q)) (M_exc_J J.1 (J.2.2 i hi)).symm ?_
        refine g_aload_n (pc := 87) d_LW_seen_87 rfl 10 rfl ?_
        refine g_aload (pc := 88) d_LW_seen_88 3 rfl ?_
        refine g_iload (pc := 90) d_LW_seen_90 0 rfl ?_
        refine g_cS1 (pc := 92) (As := [.ref _, .ref _, .int _]) d_LW_seen_92 rfl ms_LW_excess st_LW_seen_127 rfl rfl (Nat.le_of_ble_eq_true rfl) (cl_LW_excess HL hi) ?_
        refine g_icmp_ne (pc := 95) (tgt := 138) d_LW_seen_95 (by decide) (fun c_95 => ?_) (fun c_95 => ?_)
        · exact absurd rfl c_95
        · skip
          refine g_aload_n (pc := 98) d_LW_seen_98 rfl 9 rfl ?_
          refine g_iload (pc := 99) d_LW_seen_99 1 rfl ?_
          refine g_cV1 (pc := 101) (ci := 0) (As := [.int _]) d_LW_seen_101 rfl mv_HS_testWeight st_LW_seen_296 rfl rfl (by decide) rfl rfl (Nat.le_of_ble_eq_true rfl) W9.kx (wg_HS_testWeight W9 hG hq9) ?_
          refine g_top (y := L.2.1 q) (J.2.1 q hq9).symm ?_
          refine g_iload (pc := 104) d_LW_seen_104 0 rfl ?_
          refine g_icmp_ne (pc := 106) (tgt := 138) d_LW_seen_106 (by decide) (fun c_106 => ?_) (fun c_106 => ?_)
          · exact absurd rfl c_106
          · skip
            refine g_aload_n (pc := 109) d_LW_seen_109 rfl 9 rfl ?_
            refine g_iload (pc := 110) d_LW_seen_110 0 rfl ?_
            refine g_cV1 (pc := 112) (ci := 0) (As := [.int _]) d_LW_seen_112 rfl mv_HS_bound st_LW_seen_299 rfl rfl (by decide) rfl rfl (Nat.le_of_ble_eq_true rfl) W9.kx (wg_HS_bound W9 hG (hw9 q hq9).1 (hw9 q hq9).2) ?_
            refine g_top (y := M_bound L.1 (L.2.1 q)) (by unfold M_bound; rw [J.1 0 (by decide), J.1 1 (by decide)]) ?_
            refine g_aload_n (pc := 115) d_LW_seen_115 rfl 10 rfl ?_
            refine g_th0 (pc := 116) d_LW_seen_116 fl_LW_30 HL ?_
            refine g_iconst (pc := 119) (v := 0) d_LW_seen_119 (by decide) ?_
            refine g_thl (pc := 120) (j := 0) d_LW_seen_120 HL (by decide) ?_
            refine g_iload (pc := 121) d_LW_seen_121 0 rfl ?_
            refine g_aload_n (pc := 123) d_LW_seen_123 rfl 10 rfl ?_
            refine g_th0 (pc := 124) d_LW_seen_124 fl_LW_30 HL ?_
            refine g_iconst (pc := 127) (v := 1) d_LW_seen_127 (by decide) ?_
            refine g_thl (pc := 128) (j := 1) d_LW_seen_128 HL (by decide) ?_
            refine g_imul (pc := 129) d_LW_seen_129 ?_
            refine g_sipush (pc := 130) (v := 1000) d_LW_seen_130 (by decide) ?_
            refine g_idiv (pc := 133) d_LW_seen_133 (by decide) ?_
            refine g_iadd (pc := 134) d_LW_seen_134 ?_
            refine g_icmp_eq (pc := 135) (tgt := 140) d_LW_seen_135 (by decide) (fun c_135 => ?_) (fun c_135 => ?_)
            · skip
              refine g_aload_n (pc := 140) d_LW_seen_140 rfl 10 rfl ?_
              refine g_aload (pc := 141) d_LW_seen_141 3 rfl ?_
              refine g_iload (pc := 143) d_LW_seen_143 0 rfl ?_
              refine g_cS1 (pc := 145) (As := [.ref _, .ref _, .int _]) d_LW_seen_145 rfl ms_LW_excess st_LW_seen_127 rfl rfl (Nat.le_of_ble_eq_true rfl) (cl_LW_excess HL hi) ?_
              refine g_aload_n (pc := 148) d_LW_seen_148 rfl 10 rfl ?_
              refine g_aload (pc := 149) d_LW_seen_149 3 rfl ?_
              refine g_aload_n (pc := 151) d_LW_seen_151 rfl 10 rfl ?_
              refine g_th1 (pc := 152) d_LW_seen_152 fl_LW_40 HL ?_
              refine g_iload (pc := 155) d_LW_seen_155 2 rfl ?_
              refine g_twl (pc := 157) d_LW_seen_157 HL (by exact Nat.lt_of_le_of_lt (P_worst_le _ _ _ _) (by omega)) ?_
              refine g_cS1 (pc := 158) (As := [.ref _, .ref _, .int _]) d_LW_seen_158 rfl ms_LW_excess st_LW_seen_127 rfl rfl (Nat.le_of_ble_eq_true rfl) (cl_LW_excess HL hi) ?_
              refine g_icmp_le (pc := 161) (tgt := 168) d_LW_seen_161 (by decide) (fun c_161 => ?_) (fun c_161 => ?_)
              · skip
                have e5 : P_worst L.1 L.2.1 (L.2.2 i) q = (P_worst L.1 L.2.1 (L.2.2 i) (q - 1)) := worst_t c_161
                obtain ⟨x_1, hx_1⟩ : ∃ y : Int32, y = (nI q) + 1 := ⟨_, rfl⟩
                refine g_iinc (pc := 168) (w := 1) (v := x_1) (lv' := [(9, .int x_1), (10, .int (L.2.1 q)), (8, .int (nI (P_worst L.1 L.2.1 (L.2.2 i) (q - 1)))), (7, .ref (tw h (A 23) i)), (6, .int (nI i)), (2, .int xs), (3, .int xr), (4, .int xf), (5, .int (nI sc)), (0, .ref (A 22)), (1, .ref (A 23))]) d_LW_seen_168 rfl (by rw [hx_1]; rfl) (by decide) rfl ?_
                refine g_goto (pc := 171) (tgt := 39) d_LW_seen_171 (by decide) ?_
                obtain rfl : x_1 = nI (q + 1) := by rw [hx_1]; exact nI_1 _
                have z := ih (q + 1) (by omega) (by omega)
                rw [show q + 1 - 1 = q from rfl, e5] at z
                refine g_perm [0, 2, 3, 4, 5, 6, 7, 8, 9, 10] rfl ?_
                exact z
              · skip
                have e5 : P_worst L.1 L.2.1 (L.2.2 i) q = q := worst_f c_161
                refine g_iload (pc := 164) d_LW_seen_164 1 rfl ?_
                refine g_istore (pc := 166) (lv' := [(8, .int (nI q)), (10, .int (L.2.1 q)), (9, .int (nI q)), (7, .ref (tw h (A 23) i)), (6, .int (nI i)), (2, .int xs), (3, .int xr), (4, .int xf), (5, .int (nI sc)), (0, .ref (A 22)), (1, .ref (A 23))]) d_LW_seen_166 (by decide) rfl ?_
                obtain ⟨x_2, hx_2⟩ : ∃ y : Int32, y = (nI q) + 1 := ⟨_, rfl⟩
                refine g_iinc (pc := 168) (w := 2) (v := x_2) (lv' := [(9, .int x_2), (8, .int (nI q)), (10, .int (L.2.1 q)), (7, .ref (tw h (A 23) i)), (6, .int (nI i)), (2, .int xs), (3, .int xr), (4, .int xf), (5, .int (nI sc)), (0, .ref (A 22)), (1, .ref (A 23))]) d_LW_seen_168 rfl (by rw [hx_2]; rfl) (by decide) rfl ?_
                refine g_goto (pc := 171) (tgt := 39) d_LW_seen_171 (by decide) ?_
                obtain rfl : x_2 = nI (q + 1) := by rw [hx_2]; exact nI_1 _
                have z := ih (q + 1) (by omega) (by omega)
                rw [show q + 1 - 1 = q from rfl, e5] at z
                refine g_perm [0, 1, 3, 4, 5, 6, 7, 8, 9, 10] rfl ?_
                exact z
            · exact absurd rfl c_135
set_option maxRecDepth 20000 in
theorem lp_se2 {E : En} {h : Hp} {A γ : Nat → Nat} {n nw sc ni T : Nat} {L B : Bu} {k n9 : Nat} {PP : Option Value → Hp → Prop} (W : WS h A γ n nw sc L B) (p : PB nw sc ni T L B) {i : Nat} (hi : i < sc) {xs xr xf xt xw : Int32}
    (kk : G E m_LW_seen 282 [(10, .int (nI (P_rank L.2.2 i sc))), (7, .ref (tw h (A 23) i)), (6, .int (nI i)), (9, .int xt), (8, .int xw), (2, .int xs), (3, .int xr), (4, .int xf), (5, .int (nI sc)), (0, .ref (A 22)), (1, .ref (A 23))] [] (wT h (A 23) sc L) k n9 PP noX) : ∀ (d q : Nat), q ≤ sc → sc - q < d → G E m_LW_seen 223 [(11, .int (nI q)), (10, .int (nI (P_rank L.2.2 i q))), (7, .ref (tw h (A 23) i)), (6, .int (nI i)), (9, .int xt), (8, .int xw), (2, .int xs), (3, .int xr), (4, .int xf), (5, .int (nI sc)), (0, .ref (A 22)), (1, .ref (A 23))] [] (wT h (A 23) sc L) k n9 PP noX := by
  intro d
  induction d with
  | zero => intros; omega
  | succ d ih =>
    intro q hq hd
    have HL := W.ok
    have s8 := HL.s8
    have n6 := HL.n6
    have W9 := W.law (L' := L)
    obtain ⟨J, hG, hz, -, -, hw9, -⟩ := id p
    refine g_iload (pc := 223) d_LW_seen_223 0 rfl ?_
    refine g_iload (pc := 225) d_LW_seen_225 9 rfl ?_
    refine g_icmp_ge (pc := 227) (tgt := 282) d_LW_seen_227 (by decide) (fun c_227 => ?_) (fun c_227 => ?_)
    · skip
      have eq9 : q = sc := by have := (nI_leI9 (a := sc) (b := q) (by omega) (by omega)).mp c_227; omega
      subst eq9
      refine g_perm [1, 2, 3, 4, 5, 6, 7, 8, 9, 10, 11] rfl ?_
      exact kk
    · skip
      have hq9 : q < sc := Nat.lt_of_not_le (fun z => c_227 ((nI_leI9 (by omega) (by omega)).mpr z))
      refine g_aload_n (pc := 230) d_LW_seen_230 rfl 11 rfl ?_
      refine g_th2 (pc := 231) d_LW_seen_231 fl_LW_45 HL ?_
      refine g_iload (pc := 234) d_LW_seen_234 0 rfl ?_
      refine g_tsl (pc := 236) (i := q) d_LW_seen_236 HL (by first | assumption | omega) ?_
      refine g_ttI (pc := 237) (f := 8) rfl d_LW_seen_237 fl_LW_144 HL (by first | assumption | omega) ?_
      refine g_aload (pc := 240) d_LW_seen_240 2 rfl ?_
      refine g_ttI (pc := 242) (f := 8) rfl d_LW_seen_242 fl_LW_144 HL (by first | assumption | omega) ?_
      refine g_icmp_gt (pc := 245) (tgt := 273) d_LW_seen_245 (by decide) (fun c_245 => ?_) (fun c_245 => ?_)
      · skip
        have e5 : P_rank L.2.2 i (q + 1) = P_rank L.2.2 i q + 1 := by rw [P_rank, if_pos (Or.inl c_245)]
        obtain ⟨x_1, hx_1⟩ : ∃ y : Int32, y = (nI (P_rank L.2.2 i q)) + 1 := ⟨_, rfl⟩
        refine g_iinc (pc := 273) (w := 1) (v := x_1) (lv' := [(10, .int x_1), (11, .int (nI q)), (7, .ref (tw h (A 23) i)), (6, .int (nI i)), (9, .int xt), (8, .int xw), (2, .int xs), (3, .int xr), (4, .int xf), (5, .int (nI sc)), (0, .ref (A 22)), (1, .ref (A 23))]) d_LW_seen_273 rfl (by rw [hx_1]; rfl) (by decide) rfl ?_
        obtain ⟨x_2, hx_2⟩ : ∃ y : Int32, y = (nI q) + 1 := ⟨_, rfl⟩
        refine g_iinc (pc := 276) (w := 1) (v := x_2) (lv' := [(11, .int x_2), (10, .int x_1), (7, .ref (tw h (A 23) i)), (6, .int (nI i)), (9, .int xt), (8, .int xw), (2, .int xs), (3, .int xr), (4, .int xf), (5, .int (nI sc)), (0, .ref (A 22)), (1, .ref (A 23))]) d_LW_seen_276 rfl (by rw [hx_2]; rfl) (by decide) rfl ?_
        refine g_goto (pc := 279) (tgt := 223) d_LW_seen_279 (by decide) ?_
        obtain rfl : x_2 = nI (q + 1) := by rw [hx_2]; exact nI_1 _
        obtain rfl : x_1 = nI (P_rank L.2.2 i q + 1) := by rw [hx_1]; exact nI_1 _
        have z := ih (q + 1) (by omega) (by omega)
        rw [e5] at z
        refine g_perm [0, 1, 2, 3, 4, 5, 6, 7, 8, 9, 10, 11] rfl ?_
        exact z
      · skip
        refine g_aload_n (pc := 248) d_LW_seen_248 rfl 11 rfl ?_
        refine g_th2 (pc := 249) d_LW_seen_249 fl_LW_45 HL ?_
        refine g_iload (pc := 252) d_LW_seen_252 0 rfl ?_
        refine g_tsl (pc := 254) (i := q) d_LW_seen_254 HL (by first | assumption | omega) ?_
        refine g_ttI (pc := 255) (f := 8) rfl d_LW_seen_255 fl_LW_144 HL (by first | assumption | omega) ?_
        refine g_aload (pc := 258) d_LW_seen_258 2 rfl ?_
        refine g_ttI (pc := 260) (f := 8) rfl d_LW_seen_260 fl_LW_144 HL (by first | assumption | omega) ?_
        refine g_icmp_ne (pc := 263) (tgt := 276) d_LW_seen_263 (by decide) (fun c_263 => ?_) (fun c_263 => ?_)
        · skip
          have e5 : P_rank L.2.2 i (q + 1) = P_rank L.2.2 i q := by rw [P_rank, if_neg (fun z => z.elim (fun y => c_245 y) (fun y => c_263 y.1))]
          obtain ⟨x_3, hx_3⟩ : ∃ y : Int32, y = (nI q) + 1 := ⟨_, rfl⟩
          refine g_iinc (pc := 276) (w := 0) (v := x_3) (lv' := [(11, .int x_3), (10, .int (nI (P_rank L.2.2 i q))), (7, .ref (tw h (A 23) i)), (6, .int (nI i)), (9, .int xt), (8, .int xw), (2, .int xs), (3, .int xr), (4, .int xf), (5, .int (nI sc)), (0, .ref (A 22)), (1, .ref (A 23))]) d_LW_seen_276 rfl (by rw [hx_3]; rfl) (by decide) rfl ?_
          refine g_goto (pc := 279) (tgt := 223) d_LW_seen_279 (by decide) ?_
          obtain rfl : x_3 = nI (q + 1) := by rw [hx_3]; exact nI_1 _
          have z := ih (q + 1) (by omega) (by omega)
          rw [e5] at z
          refine g_perm [0, 1, 2, 3, 4, 5, 6, 7, 8, 9, 10, 11] rfl ?_
          exact z
        · skip
          refine g_iload (pc := 266) d_LW_seen_266 0 rfl ?_
          refine g_iload (pc := 268) d_LW_seen_268 3 rfl ?_
          refine g_icmp_ge (pc := 270) (tgt := 276) d_LW_seen_270 (by decide) (fun c_270 => ?_) (fun c_270 => ?_)
          · skip
            have e5 : P_rank L.2.2 i (q + 1) = P_rank L.2.2 i q := by rw [P_rank, if_neg (fun z => z.elim (fun y => c_245 y) (fun y => absurd ((nI_leI9 (by omega) (by omega)).mp c_270) (by omega)))]
            obtain ⟨x_4, hx_4⟩ : ∃ y : Int32, y = (nI q) + 1 := ⟨_, rfl⟩
            refine g_iinc (pc := 276) (w := 0) (v := x_4) (lv' := [(11, .int x_4), (10, .int (nI (P_rank L.2.2 i q))), (7, .ref (tw h (A 23) i)), (6, .int (nI i)), (9, .int xt), (8, .int xw), (2, .int xs), (3, .int xr), (4, .int xf), (5, .int (nI sc)), (0, .ref (A 22)), (1, .ref (A 23))]) d_LW_seen_276 rfl (by rw [hx_4]; rfl) (by decide) rfl ?_
            refine g_goto (pc := 279) (tgt := 223) d_LW_seen_279 (by decide) ?_
            obtain rfl : x_4 = nI (q + 1) := by rw [hx_4]; exact nI_1 _
            have z := ih (q + 1) (by omega) (by omega)
            rw [e5] at z
            refine g_perm [0, 1, 2, 3, 4, 5, 6, 7, 8, 9, 10, 11] rfl ?_
            exact z
          · skip
            have e5 : P_rank L.2.2 i (q + 1) = P_rank L.2.2 i q + 1 := by rw [P_rank, if_pos (Or.inr ⟨c_263, Nat.lt_of_not_le (fun z => c_270 ((nI_leI9 (by omega) (by omega)).mpr z))⟩)]
            obtain ⟨x_5, hx_5⟩ : ∃ y : Int32, y = (nI (P_rank L.2.2 i q)) + 1 := ⟨_, rfl⟩
            refine g_iinc (pc := 273) (w := 1) (v := x_5) (lv' := [(10, .int x_5), (11, .int (nI q)), (7, .ref (tw h (A 23) i)), (6, .int (nI i)), (9, .int xt), (8, .int xw), (2, .int xs), (3, .int xr), (4, .int xf), (5, .int (nI sc)), (0, .ref (A 22)), (1, .ref (A 23))]) d_LW_seen_273 rfl (by rw [hx_5]; rfl) (by decide) rfl ?_
            obtain ⟨x_6, hx_6⟩ : ∃ y : Int32, y = (nI q) + 1 := ⟨_, rfl⟩
            refine g_iinc (pc := 276) (w := 1) (v := x_6) (lv' := [(11, .int x_6), (10, .int x_5), (7, .ref (tw h (A 23) i)), (6, .int (nI i)), (9, .int xt), (8, .int xw), (2, .int xs), (3, .int xr), (4, .int xf), (5, .int (nI sc)), (0, .ref (A 22)), (1, .ref (A 23))]) d_LW_seen_276 rfl (by rw [hx_6]; rfl) (by decide) rfl ?_
            refine g_goto (pc := 279) (tgt := 223) d_LW_seen_279 (by decide) ?_
            obtain rfl : x_6 = nI (q + 1) := by rw [hx_6]; exact nI_1 _
            obtain rfl : x_5 = nI (P_rank L.2.2 i q + 1) := by rw [hx_5]; exact nI_1 _
            have z := ih (q + 1) (by omega) (by omega)
            rw [e5] at z
            refine g_perm [0, 1, 2, 3, 4, 5, 6, 7, 8, 9, 10, 11] rfl ?_
            exact z
set_option maxRecDepth 20000 in
theorem lp_se3 {E : En} {h : Hp} {A γ : Nat → Nat} {n nw sc ni T : Nat} {L B : Bu} {k n9 : Nat} {PP : Option Value → Hp → Prop} (W : WS h A γ n nw sc L B) (p : PB nw sc ni T L B)
    (kk : G E m_LW_seen 359 [(2, .int (Q_sum L.1 L.2.1 L.2.2 nw sc)), (3, .int (nI (Q_true L.1 L.2.1 L.2.2 nw sc))), (4, .int (nI (Q_fined L.2.2 (sc - 1)))), (5, .int (nI sc)), (0, .ref (A 22)), (1, .ref (A 23))] [] (wT h (A 23) sc L) k n9 PP noX) : ∀ (d i : Nat), i ≤ sc → sc - i < d → G E m_LW_seen 17 [(6, .int (nI i)), (2, .int (Q_sum L.1 L.2.1 L.2.2 nw i)), (3, .int (nI (Q_true L.1 L.2.1 L.2.2 nw i))), (4, .int (nI (Q_fined L.2.2 (i - 1)))), (5, .int (nI sc)), (0, .ref (A 22)), (1, .ref (A 23))] [] (wT h (A 23) sc L) k n9 PP noX := by
  intro d
  induction d with
  | zero => intros; omega
  | succ d ih =>
    intro i hi9 hd
    have HL := W.ok
    have s8 := HL.s8
    have n6 := HL.n6
    have W9 := W.law (L' := L)
    obtain ⟨J, hG, hz, -, -, hw9, -⟩ := id p
    refine g_iload (pc := 17) d_LW_seen_17 0 rfl ?_
    refine g_iload (pc := 19) d_LW_seen_19 4 rfl ?_
    refine g_icmp_ge (pc := 21) (tgt := 359) d_LW_seen_21 (by decide) (fun c_21 => ?_) (fun c_21 => ?_)
    · skip
      have eq9 : i = sc := by have := (nI_leI9 (a := sc) (b := i) (by omega) (by omega)).mp c_21; omega
      subst eq9
      refine g_perm [1, 2, 3, 4, 5, 6] rfl ?_
      exact kk
    · skip
      have hi : i < sc := Nat.lt_of_not_le (fun z => c_21 ((nI_leI9 (by omega) (by omega)).mpr z))
      refine g_aload_n (pc := 24) d_LW_seen_24 rfl 6 rfl ?_
      refine g_th2 (pc := 25) d_LW_seen_25 fl_LW_45 HL ?_
      refine g_iload (pc := 28) d_LW_seen_28 0 rfl ?_
      refine g_tsl (pc := 30) (i := i) d_LW_seen_30 HL (by first | assumption | omega) ?_
      refine g_astore (pc := 31) (lv' := [(7, .ref (tw h (A 23) i)), (6, .int (nI i)), (2, .int (Q_sum L.1 L.2.1 L.2.2 nw i)), (3, .int (nI (Q_true L.1 L.2.1 L.2.2 nw i))), (4, .int (nI (Q_fined L.2.2 (i - 1)))), (5, .int (nI sc)), (0, .ref (A 22)), (1, .ref (A 23))]) d_LW_seen_31 (by decide) rfl ?_
      refine g_iconst (pc := 33) (v := 0) d_LW_seen_33 (by decide) ?_
      refine g_istore (pc := 34) (lv' := [(8, .int (nI (P_worst L.1 L.2.1 (L.2.2 i) (0 - 1)))), (7, .ref (tw h (A 23) i)), (6, .int (nI i)), (2, .int (Q_sum L.1 L.2.1 L.2.2 nw i)), (3, .int (nI (Q_true L.1 L.2.1 L.2.2 nw i))), (4, .int (nI (Q_fined L.2.2 (i - 1)))), (5, .int (nI sc)), (0, .ref (A 22)), (1, .ref (A 23))]) d_LW_seen_34 (by decide) rfl ?_
      refine g_iconst (pc := 36) (v := 0) d_LW_seen_36 (by decide) ?_
      refine g_istore (pc := 37) (lv' := [(9, .int (nI 0)), (8, .int (nI (P_worst L.1 L.2.1 (L.2.2 i) (0 - 1)))), (7, .ref (tw h (A 23) i)), (6, .int (nI i)), (2, .int (Q_sum L.1 L.2.1 L.2.2 nw i)), (3, .int (nI (Q_true L.1 L.2.1 L.2.2 nw i))), (4, .int (nI (Q_fined L.2.2 (i - 1)))), (5, .int (nI sc)), (0, .ref (A 22)), (1, .ref (A 23))]) d_LW_seen_37 (by decide) rfl ?_
      refine g_perm [0, 1, 2, 3, 4, 5, 6, 7, 8, 9] rfl ?_
      refine lp_se1 W p hi ?_ (nw + 1) 0 (by omega) (by omega)
      have K0 : G E m_LW_seen 217 [(9, .int (M_tot L.1 L.2.1 (L.2.2 i) nw)), (8, .int (nI (P_worst L.1 L.2.1 (L.2.2 i) (nw - 1)))), (7, .ref (tw h (A 23) i)), (6, .int (nI i)), (2, .int (Q_sum L.1 L.2.1 L.2.2 nw (i + 1))), (3, .int (nI (Q_true L.1 L.2.1 L.2.2 nw (i + 1)))), (4, .int (nI (Q_fined L.2.2 ((i + 1) - 1)))), (5, .int (nI sc)), (0, .ref (A 22)), (1, .ref (A 23))] [] (wT h (A 23) sc L) k n9 PP noX := by
        refine g_iconst (pc := 217) (v := 0) d_LW_seen_217 (by decide) ?_
        refine g_istore (pc := 218) (lv' := [(10, .int (nI (P_rank L.2.2 i 0))), (9, .int (M_tot L.1 L.2.1 (L.2.2 i) nw)), (8, .int (nI (P_worst L.1 L.2.1 (L.2.2 i) (nw - 1)))), (7, .ref (tw h (A 23) i)), (6, .int (nI i)), (2, .int (Q_sum L.1 L.2.1 L.2.2 nw (i + 1))), (3, .int (nI (Q_true L.1 L.2.1 L.2.2 nw (i + 1)))), (4, .int (nI (Q_fined L.2.2 ((i + 1) - 1)))), (5, .int (nI sc)), (0, .ref (A 22)), (1, .ref (A 23))]) d_LW_seen_218 (by decide) rfl ?_
        refine g_iconst (pc := 220) (v := 0) d_LW_seen_220 (by decide) ?_
        refine g_istore (pc := 221) (lv' := [(11, .int (nI 0)), (10, .int (nI (P_rank L.2.2 i 0))), (9, .int (M_tot L.1 L.2.1 (L.2.2 i) nw)), (8, .int (nI (P_worst L.1 L.2.1 (L.2.2 i) (nw - 1)))), (7, .ref (tw h (A 23) i)), (6, .int (nI i)), (2, .int (Q_sum L.1 L.2.1 L.2.2 nw (i + 1))), (3, .int (nI (Q_true L.1 L.2.1 L.2.2 nw (i + 1)))), (4, .int (nI (Q_fined L.2.2 ((i + 1) - 1)))), (5, .int (nI sc)), (0, .ref (A 22)), (1, .ref (A 23))]) d_LW_seen_221 (by decide) rfl ?_
        refine g_perm [0, 1, 4, 5, 2, 3, 6, 7, 8, 9, 10, 11] rfl ?_
        refine lp_se2 W p hi ?_ (sc + 1) 0 (by omega) (by omega)
        refine g_aload_n (pc := 282) d_LW_seen_282 rfl 9 rfl ?_
        refine g_iload (pc := 283) d_LW_seen_283 2 rfl ?_
        refine g_cV1 (pc := 285) (ci := 0) (As := [.int _]) d_LW_seen_285 rfl mv_HS_totalExcess st_LW_seen_302 rfl rfl (by decide) rfl rfl (Nat.le_of_ble_eq_true rfl) W9.kx (wg_HS_totalExcess W9 hG hi) ?_
        refine g_top (y := (M_tot L.1 L.2.1 (L.2.2 i) nw)) (J.tot hi).symm ?_
        refine g_iload (pc := 288) d_LW_seen_288 3 rfl ?_
        refine g_icmp_ne (pc := 290) (tgt := 351) d_LW_seen_290 (by decide) (fun c_290 => ?_) (fun c_290 => ?_)
        · exact absurd rfl c_290
        · skip
          refine g_aload_n (pc := 293) d_LW_seen_293 rfl 9 rfl ?_
          refine g_iload (pc := 294) d_LW_seen_294 2 rfl ?_
          refine g_cV1 (pc := 296) (ci := 0) (As := [.int _]) d_LW_seen_296 rfl mv_HS_isTrue st_LW_seen_273 rfl rfl (by decide) rfl rfl (Nat.le_of_ble_eq_true rfl) W9.kx (wg_HS_isTrue W9 hG hi) ?_
          refine g_top (y := bI (decide ((M_tot L.1 L.2.1 (L.2.2 i) nw) = 0))) (by rw [J.tot hi]) ?_
          refine g_iload (pc := 299) d_LW_seen_299 3 rfl ?_
          refine g_if_ne (pc := 301) (tgt := 308) d_LW_seen_301 (by decide) (fun c_301 => ?_) (fun c_301 => ?_)
          · skip
            have e9 : bI (decide ((M_tot L.1 L.2.1 (L.2.2 i) nw) = 0)) = 0 := by rw [decide_eq_false c_301]; rfl
            refine g_iconst (pc := 308) (v := 0) d_LW_seen_308 (by decide) ?_
            refine g_icmp_ne (pc := 309) (tgt := 351) d_LW_seen_309 (by decide) (fun c_309 => ?_) (fun c_309 => ?_)
            · exact absurd e9 c_309
            · skip
              refine g_aload_n (pc := 312) d_LW_seen_312 rfl 9 rfl ?_
              refine g_iload (pc := 313) d_LW_seen_313 2 rfl ?_
              refine g_cV1 (pc := 315) (ci := 0) (As := [.int _]) d_LW_seen_315 rfl mv_HS_ounces st_LW_seen_305 rfl rfl (by decide) rfl rfl (Nat.le_of_ble_eq_true rfl) W9.kx (wg_HS_ounces W9 hG hi) ?_
              refine g_top (y := M_ounces (M_tot L.1 L.2.1 (L.2.2 i) nw)) (by rw [J.tot hi]) ?_
              refine g_iload (pc := 318) d_LW_seen_318 3 rfl ?_
              refine g_bipush (pc := 320) (v := 27) d_LW_seen_320 (by decide) ?_
              refine g_iadd (pc := 322) d_LW_seen_322 ?_
              refine g_bipush (pc := 323) (v := 28) d_LW_seen_323 (by decide) ?_
              refine g_idiv (pc := 325) d_LW_seen_325 (by decide) ?_
              refine g_icmp_ne (pc := 326) (tgt := 351) d_LW_seen_326 (by decide) (fun c_326 => ?_) (fun c_326 => ?_)
              · exact absurd rfl c_326
              · skip
                refine g_aload_n (pc := 329) d_LW_seen_329 rfl 9 rfl ?_
                refine g_iload (pc := 330) d_LW_seen_330 2 rfl ?_
                refine g_cV1 (pc := 332) (ci := 0) (As := [.int _]) d_LW_seen_332 rfl mv_HS_worstWeight st_LW_seen_308 rfl rfl (by decide) rfl rfl (Nat.le_of_ble_eq_true rfl) W9.kx (wg_HS_worstWeight W9 hG hi) ?_
                refine g_top (y := nI (P_worst L.1 L.2.1 (L.2.2 i) (nw - 1))) (by rw [P_worst_J J.1 J.2.1 (J.2.2 i hi) _ (by omega)]) ?_
                refine g_iload (pc := 335) d_LW_seen_335 4 rfl ?_
                refine g_icmp_ne (pc := 337) (tgt := 351) d_LW_seen_337 (by decide) (fun c_337 => ?_) (fun c_337 => ?_)
                · exact absurd rfl c_337
                · skip
                  refine g_aload_n (pc := 340) d_LW_seen_340 rfl 9 rfl ?_
                  refine g_iload (pc := 341) d_LW_seen_341 0 rfl ?_
                  refine g_cV1 (pc := 343) (ci := 0) (As := [.int _]) d_LW_seen_343 rfl mv_HS_shopAtRank st_LW_seen_311 rfl rfl (by decide) rfl rfl (Nat.le_of_ble_eq_true rfl) W9.kx (wg_HS_shopAtRank W9 hG) ?_
                  refine g_top (y := nI i) (by rw [← Q_rank_J s8.2 (fun j hj => J.2.2 j hj 8 (by decide)) sc (Nat.le_refl _)]; exact Q_rank_at s8.2 hi sc (Nat.le_refl _) (by omega)) ?_
                  refine g_iload (pc := 346) d_LW_seen_346 2 rfl ?_
                  refine g_icmp_eq (pc := 348) (tgt := 353) d_LW_seen_348 (by decide) (fun c_348 => ?_) (fun c_348 => ?_)
                  · skip
                    obtain ⟨x_1, hx_1⟩ : ∃ y : Int32, y = (nI i) + 1 := ⟨_, rfl⟩
                    refine g_iinc (pc := 353) (w := 2) (v := x_1) (lv' := [(6, .int x_1), (10, .int (nI (P_rank L.2.2 i sc))), (7, .ref (tw h (A 23) i)), (9, .int (M_tot L.1 L.2.1 (L.2.2 i) nw)), (8, .int (nI (P_worst L.1 L.2.1 (L.2.2 i) (nw - 1)))), (2, .int (Q_sum L.1 L.2.1 L.2.2 nw (i + 1))), (3, .int (nI (Q_true L.1 L.2.1 L.2.2 nw (i + 1)))), (4, .int (nI (Q_fined L.2.2 ((i + 1) - 1)))), (5, .int (nI sc)), (0, .ref (A 22)), (1, .ref (A 23))]) d_LW_seen_353 rfl (by rw [hx_1]; rfl) (by decide) rfl ?_
                    refine g_goto (pc := 356) (tgt := 17) d_LW_seen_356 (by decide) ?_
                    obtain rfl : x_1 = nI (i + 1) := by rw [hx_1]; exact nI_1 _
                    refine g_perm [0, 5, 6, 7, 8, 9, 10] rfl ?_
                    exact ih (i + 1) (by omega) (by omega)
                  · exact absurd rfl c_348
          · skip
            have e9 : bI (decide ((M_tot L.1 L.2.1 (L.2.2 i) nw) = 0)) = 1 := by rw [decide_eq_true c_301]; rfl
            refine g_iconst (pc := 304) (v := 1) d_LW_seen_304 (by decide) ?_
            refine g_goto (pc := 305) (tgt := 309) d_LW_seen_305 (by decide) ?_
            refine g_icmp_ne (pc := 309) (tgt := 351) d_LW_seen_309 (by decide) (fun c_309 => ?_) (fun c_309 => ?_)
            · exact absurd e9 c_309
            · skip
              refine g_aload_n (pc := 312) d_LW_seen_312 rfl 9 rfl ?_
              refine g_iload (pc := 313) d_LW_seen_313 2 rfl ?_
              refine g_cV1 (pc := 315) (ci := 0) (As := [.int _]) d_LW_seen_315 rfl mv_HS_ounces st_LW_seen_305 rfl rfl (by decide) rfl rfl (Nat.le_of_ble_eq_true rfl) W9.kx (wg_HS_ounces W9 hG hi) ?_
              refine g_top (y := M_ounces (M_tot L.1 L.2.1 (L.2.2 i) nw)) (by rw [J.tot hi]) ?_
              refine g_iload (pc := 318) d_LW_seen_318 3 rfl ?_
              refine g_bipush (pc := 320) (v := 27) d_LW_seen_320 (by decide) ?_
              refine g_iadd (pc := 322) d_LW_seen_322 ?_
              refine g_bipush (pc := 323) (v := 28) d_LW_seen_323 (by decide) ?_
              refine g_idiv (pc := 325) d_LW_seen_325 (by decide) ?_
              refine g_icmp_ne (pc := 326) (tgt := 351) d_LW_seen_326 (by decide) (fun c_326 => ?_) (fun c_326 => ?_)
              · exact absurd rfl c_326
              · skip
                refine g_aload_n (pc := 329) d_LW_seen_329 rfl 9 rfl ?_
                refine g_iload (pc := 330) d_LW_seen_330 2 rfl ?_
                refine g_cV1 (pc := 332) (ci := 0) (As := [.int _]) d_LW_seen_332 rfl mv_HS_worstWeight st_LW_seen_308 rfl rfl (by decide) rfl rfl (Nat.le_of_ble_eq_true rfl) W9.kx (wg_HS_worstWeight W9 hG hi) ?_
                refine g_top (y := nI (P_worst L.1 L.2.1 (L.2.2 i) (nw - 1))) (by rw [P_worst_J J.1 J.2.1 (J.2.2 i hi) _ (by omega)]) ?_
                refine g_iload (pc := 335) d_LW_seen_335 4 rfl ?_
                refine g_icmp_ne (pc := 337) (tgt := 351) d_LW_seen_337 (by decide) (fun c_337 => ?_) (fun c_337 => ?_)
                · exact absurd rfl c_337
                · skip
                  refine g_aload_n (pc := 340) d_LW_seen_340 rfl 9 rfl ?_
                  refine g_iload (pc := 341) d_LW_seen_341 0 rfl ?_
                  refine g_cV1 (pc := 343) (ci := 0) (As := [.int _]) d_LW_seen_343 rfl mv_HS_shopAtRank st_LW_seen_311 rfl rfl (by decide) rfl rfl (Nat.le_of_ble_eq_true rfl) W9.kx (wg_HS_shopAtRank W9 hG) ?_
                  refine g_top (y := nI i) (by rw [← Q_rank_J s8.2 (fun j hj => J.2.2 j hj 8 (by decide)) sc (Nat.le_refl _)]; exact Q_rank_at s8.2 hi sc (Nat.le_refl _) (by omega)) ?_
                  refine g_iload (pc := 346) d_LW_seen_346 2 rfl ?_
                  refine g_icmp_eq (pc := 348) (tgt := 353) d_LW_seen_348 (by decide) (fun c_348 => ?_) (fun c_348 => ?_)
                  · skip
                    obtain ⟨x_2, hx_2⟩ : ∃ y : Int32, y = (nI i) + 1 := ⟨_, rfl⟩
                    refine g_iinc (pc := 353) (w := 2) (v := x_2) (lv' := [(6, .int x_2), (10, .int (nI (P_rank L.2.2 i sc))), (7, .ref (tw h (A 23) i)), (9, .int (M_tot L.1 L.2.1 (L.2.2 i) nw)), (8, .int (nI (P_worst L.1 L.2.1 (L.2.2 i) (nw - 1)))), (2, .int (Q_sum L.1 L.2.1 L.2.2 nw (i + 1))), (3, .int (nI (Q_true L.1 L.2.1 L.2.2 nw (i + 1)))), (4, .int (nI (Q_fined L.2.2 ((i + 1) - 1)))), (5, .int (nI sc)), (0, .ref (A 22)), (1, .ref (A 23))]) d_LW_seen_353 rfl (by rw [hx_2]; rfl) (by decide) rfl ?_
                    refine g_goto (pc := 356) (tgt := 17) d_LW_seen_356 (by decide) ?_
                    obtain rfl : x_2 = nI (i + 1) := by rw [hx_2]; exact nI_1 _
                    refine g_perm [0, 5, 6, 7, 8, 9, 10] rfl ?_
                    exact ih (i + 1) (by omega) (by omega)
                  · exact absurd rfl c_348
      refine g_aload_n (pc := 174) d_LW_seen_174 rfl 8 rfl ?_
      refine g_aload (pc := 175) d_LW_seen_175 1 rfl ?_
      refine g_cS1 (pc := 177) (As := [.ref _, .ref _]) d_LW_seen_177 rfl ms_LW_total st_LW_seen_131 rfl rfl (Nat.le_of_ble_eq_true rfl) (cl_LW_total HL hi) ?_
      refine g_istore (pc := 180) (lv' := [(9, .int (M_tot L.1 L.2.1 (L.2.2 i) nw)), (8, .int (nI (P_worst L.1 L.2.1 (L.2.2 i) (nw - 1)))), (7, .ref (tw h (A 23) i)), (6, .int (nI i)), (2, .int (Q_sum L.1 L.2.1 L.2.2 nw i)), (3, .int (nI (Q_true L.1 L.2.1 L.2.2 nw i))), (4, .int (nI (Q_fined L.2.2 (i - 1)))), (5, .int (nI sc)), (0, .ref (A 22)), (1, .ref (A 23))]) d_LW_seen_180 (by decide) rfl ?_
      refine g_iload_n (pc := 182) d_LW_seen_182 rfl 4 rfl ?_
      refine g_iload (pc := 183) d_LW_seen_183 0 rfl ?_
      refine g_iadd (pc := 185) d_LW_seen_185 ?_
      refine g_top (y := (Q_sum L.1 L.2.1 L.2.2 nw (i + 1))) rfl ?_
      refine g_istore_n (pc := 186) (lv' := [(2, .int (Q_sum L.1 L.2.1 L.2.2 nw (i + 1))), (9, .int (M_tot L.1 L.2.1 (L.2.2 i) nw)), (8, .int (nI (P_worst L.1 L.2.1 (L.2.2 i) (nw - 1)))), (7, .ref (tw h (A 23) i)), (6, .int (nI i)), (3, .int (nI (Q_true L.1 L.2.1 L.2.2 nw i))), (4, .int (nI (Q_fined L.2.2 (i - 1)))), (5, .int (nI sc)), (0, .ref (A 22)), (1, .ref (A 23))]) d_LW_seen_186 rfl (by decide) rfl ?_
      refine g_iload (pc := 187) d_LW_seen_187 1 rfl ?_
      refine g_if_ne (pc := 189) (tgt := 195) d_LW_seen_189 (by decide) (fun c_189 => ?_) (fun c_189 => ?_)
      · skip
        have e6 : Q_true L.1 L.2.1 L.2.2 nw (i + 1) = Q_true L.1 L.2.1 L.2.2 nw i := by rw [Q_true, if_neg c_189]
        refine g_aload (pc := 195) d_LW_seen_195 3 rfl ?_
        refine g_ttI (pc := 197) (f := 13) rfl d_LW_seen_197 fl_LW_151 HL (by first | assumption | omega) ?_
        refine g_aload_n (pc := 200) d_LW_seen_200 rfl 9 rfl ?_
        refine g_th2 (pc := 201) d_LW_seen_201 fl_LW_45 HL ?_
        refine g_iload (pc := 204) d_LW_seen_204 6 rfl ?_
        refine g_tsl (pc := 206) (i := (Q_fined L.2.2 (i - 1))) d_LW_seen_206 HL (by exact Nat.lt_of_le_of_lt (Q_fined_le _ _) (by omega)) ?_
        refine g_ttI (pc := 207) (f := 13) rfl d_LW_seen_207 fl_LW_151 HL (by exact Nat.lt_of_le_of_lt (Q_fined_le _ _) (by omega)) ?_
        refine g_icmp_le (pc := 210) (tgt := 217) d_LW_seen_210 (by decide) (fun c_210 => ?_) (fun c_210 => ?_)
        · skip
          have e7 : Q_fined L.2.2 i = Q_fined L.2.2 (i - 1) := fined_t c_210
          have z := K0
          rw [show i + 1 - 1 = i from rfl, e6, e7] at z
          refine g_perm [1, 2, 3, 4, 0, 5, 6, 7, 8, 9] rfl ?_
          exact z
        · skip
          have e7 : Q_fined L.2.2 i = i := fined_f c_210
          refine g_iload (pc := 213) d_LW_seen_213 4 rfl ?_
          refine g_istore (pc := 215) (lv' := [(4, .int (nI i)), (2, .int (Q_sum L.1 L.2.1 L.2.2 nw (i + 1))), (9, .int (M_tot L.1 L.2.1 (L.2.2 i) nw)), (8, .int (nI (P_worst L.1 L.2.1 (L.2.2 i) (nw - 1)))), (7, .ref (tw h (A 23) i)), (6, .int (nI i)), (3, .int (nI (Q_true L.1 L.2.1 L.2.2 nw i))), (5, .int (nI sc)), (0, .ref (A 22)), (1, .ref (A 23))]) d_LW_seen_215 (by decide) rfl ?_
          have z := K0
          rw [show i + 1 - 1 = i from rfl, e6, e7] at z
          refine g_perm [2, 3, 4, 5, 1, 6, 0, 7, 8, 9] rfl ?_
          exact z
      · skip
        have e6 : Q_true L.1 L.2.1 L.2.2 nw (i + 1) = Q_true L.1 L.2.1 L.2.2 nw i + 1 := by rw [Q_true, if_pos c_189]
        obtain ⟨x_1, hx_1⟩ : ∃ y : Int32, y = (nI (Q_true L.1 L.2.1 L.2.2 nw i)) + 1 := ⟨_, rfl⟩
        refine g_iinc (pc := 192) (w := 5) (v := x_1) (lv' := [(3, .int x_1), (2, .int (Q_sum L.1 L.2.1 L.2.2 nw (i + 1))), (9, .int (M_tot L.1 L.2.1 (L.2.2 i) nw)), (8, .int (nI (P_worst L.1 L.2.1 (L.2.2 i) (nw - 1)))), (7, .ref (tw h (A 23) i)), (6, .int (nI i)), (4, .int (nI (Q_fined L.2.2 (i - 1)))), (5, .int (nI sc)), (0, .ref (A 22)), (1, .ref (A 23))]) d_LW_seen_192 rfl (by rw [hx_1]; rfl) (by decide) rfl ?_
        refine g_aload (pc := 195) d_LW_seen_195 4 rfl ?_
        refine g_ttI (pc := 197) (f := 13) rfl d_LW_seen_197 fl_LW_151 HL (by first | assumption | omega) ?_
        refine g_aload_n (pc := 200) d_LW_seen_200 rfl 9 rfl ?_
        refine g_th2 (pc := 201) d_LW_seen_201 fl_LW_45 HL ?_
        refine g_iload (pc := 204) d_LW_seen_204 6 rfl ?_
        refine g_tsl (pc := 206) (i := (Q_fined L.2.2 (i - 1))) d_LW_seen_206 HL (by exact Nat.lt_of_le_of_lt (Q_fined_le _ _) (by omega)) ?_
        refine g_ttI (pc := 207) (f := 13) rfl d_LW_seen_207 fl_LW_151 HL (by exact Nat.lt_of_le_of_lt (Q_fined_le _ _) (by omega)) ?_
        refine g_icmp_le (pc := 210) (tgt := 217) d_LW_seen_210 (by decide) (fun c_210 => ?_) (fun c_210 => ?_)
        · skip
          have e7 : Q_fined L.2.2 i = Q_fined L.2.2 (i - 1) := fined_t c_210
          obtain rfl : x_1 = nI (Q_true L.1 L.2.1 L.2.2 nw i + 1) := by rw [hx_1]; exact nI_1 _
          have z := K0
          rw [show i + 1 - 1 = i from rfl, e6, e7] at z
          refine g_perm [2, 3, 4, 5, 1, 0, 6, 7, 8, 9] rfl ?_
          exact z
        · skip
          have e7 : Q_fined L.2.2 i = i := fined_f c_210
          refine g_iload (pc := 213) d_LW_seen_213 5 rfl ?_
          refine g_istore (pc := 215) (lv' := [(4, .int (nI i)), (3, .int x_1), (2, .int (Q_sum L.1 L.2.1 L.2.2 nw (i + 1))), (9, .int (M_tot L.1 L.2.1 (L.2.2 i) nw)), (8, .int (nI (P_worst L.1 L.2.1 (L.2.2 i) (nw - 1)))), (7, .ref (tw h (A 23) i)), (6, .int (nI i)), (5, .int (nI sc)), (0, .ref (A 22)), (1, .ref (A 23))]) d_LW_seen_215 (by decide) rfl ?_
          obtain rfl : x_1 = nI (Q_true L.1 L.2.1 L.2.2 nw i + 1) := by rw [hx_1]; exact nI_1 _
          have z := K0
          rw [show i + 1 - 1 = i from rfl, e6, e7] at z
          refine g_perm [3, 4, 5, 6, 2, 1, 0, 7, 8, 9] rfl ?_
          exact z
set_option maxRecDepth 20000 in
theorem cl_LW_seen {E : En} {h : Hp} {A γ : Nat → Nat} {n nw sc ni T : Nat} {L B : Bu} (W : WS h A γ n nw sc L B) (p : PB nw sc ni T L B) : CR E m_LW_seen [.ref (A 22), .ref (A 23)] (wT h (A 23) sc L) (some (.int 1)) (wT h (A 23) sc L) := by
  refine ct_of rfl (by decide +kernel) (Nat.le_of_ble_eq_true rfl) ?_
  show G E m_LW_seen 0 [(0, .ref (A 22)), (1, .ref (A 23))] [] (wT h (A 23) sc L) 0 0 _ noX
  have HL := W.ok
  have s8 := HL.s8
  have n6 := HL.n6
  have W9 := W.law (L' := L)
  obtain ⟨J, hG, hz, -, -, hw9, -⟩ := id p
  refine g_iconst (pc := 0) (v := 0) d_LW_seen_0 (by decide) ?_
  refine g_top (y := (Q_sum L.1 L.2.1 L.2.2 nw 0)) rfl ?_
  refine g_istore_n (pc := 1) (lv' := [(2, .int (Q_sum L.1 L.2.1 L.2.2 nw 0)), (0, .ref (A 22)), (1, .ref (A 23))]) d_LW_seen_1 rfl (by decide) rfl ?_
  refine g_iconst (pc := 2) (v := 0) d_LW_seen_2 (by decide) ?_
  refine g_top (y := (nI (Q_true L.1 L.2.1 L.2.2 nw 0))) rfl ?_
  refine g_istore_n (pc := 3) (lv' := [(3, .int (nI (Q_true L.1 L.2.1 L.2.2 nw 0))), (2, .int (Q_sum L.1 L.2.1 L.2.2 nw 0)), (0, .ref (A 22)), (1, .ref (A 23))]) d_LW_seen_3 rfl (by decide) rfl ?_
  refine g_iconst (pc := 4) (v := 0) d_LW_seen_4 (by decide) ?_
  refine g_top (y := (nI (Q_fined L.2.2 (0 - 1)))) rfl ?_
  refine g_istore (pc := 5) (lv' := [(4, .int (nI (Q_fined L.2.2 (0 - 1)))), (3, .int (nI (Q_true L.1 L.2.1 L.2.2 nw 0))), (2, .int (Q_sum L.1 L.2.1 L.2.2 nw 0)), (0, .ref (A 22)), (1, .ref (A 23))]) d_LW_seen_5 (by decide) rfl ?_
  refine g_aload_n (pc := 7) d_LW_seen_7 rfl 4 rfl ?_
  refine g_th2 (pc := 8) d_LW_seen_8 fl_LW_45 HL ?_
  refine g_tsn (pc := 11) d_LW_seen_11 HL ?_
  refine g_istore (pc := 12) (lv' := [(5, .int (nI sc)), (4, .int (nI (Q_fined L.2.2 (0 - 1)))), (3, .int (nI (Q_true L.1 L.2.1 L.2.2 nw 0))), (2, .int (Q_sum L.1 L.2.1 L.2.2 nw 0)), (0, .ref (A 22)), (1, .ref (A 23))]) d_LW_seen_12 (by decide) rfl ?_
  refine g_iconst (pc := 14) (v := 0) d_LW_seen_14 (by decide) ?_
  refine g_istore (pc := 15) (lv' := [(6, .int (nI 0)), (5, .int (nI sc)), (4, .int (nI (Q_fined L.2.2 (0 - 1)))), (3, .int (nI (Q_true L.1 L.2.1 L.2.2 nw 0))), (2, .int (Q_sum L.1 L.2.1 L.2.2 nw 0)), (0, .ref (A 22)), (1, .ref (A 23))]) d_LW_seen_15 (by decide) rfl ?_
  refine g_perm [0, 4, 3, 2, 1, 5, 6] rfl ?_
  refine lp_se3 W p ?_ (sc + 1) 0 (by omega) (by omega)
  refine g_aload_n (pc := 359) d_LW_seen_359 rfl 4 rfl ?_
  refine g_iload (pc := 360) d_LW_seen_360 3 rfl ?_
  refine g_cV1 (pc := 362) (ci := 0) (As := [.int _]) d_LW_seen_362 rfl mv_HS_shopAtRank st_LW_seen_311 rfl rfl (by decide) rfl rfl (Nat.le_of_ble_eq_true rfl) W9.kx (wg_HS_shopAtRank W9 hG) ?_
  refine g_top (y := -1) (by rw [← Q_rank_J s8.2 (fun j hj => J.2.2 j hj 8 (by decide)) sc (Nat.le_refl _)]; exact Q_rank_no (fun a ha z => by have := P_rank_lt (s := L.2.2) sc ha; have := nI_inj (by omega) (by omega) z; omega) sc (Nat.le_refl _)) ?_
  refine g_iconst (pc := 365) (v := (-1)) d_LW_seen_365 (by decide) ?_
  refine g_icmp_ne (pc := 366) (tgt := 419) d_LW_seen_366 (by decide) (fun c_366 => ?_) (fun c_366 => ?_)
  · exact absurd rfl c_366
  · skip
    refine g_aload_n (pc := 369) d_LW_seen_369 rfl 4 rfl ?_
    refine g_iconst (pc := 370) (v := (-1)) d_LW_seen_370 (by decide) ?_
    refine g_cV1 (pc := 371) (ci := 0) (As := [.int _]) d_LW_seen_371 rfl mv_HS_shopAtRank st_LW_seen_311 rfl rfl (by decide) rfl rfl (Nat.le_of_ble_eq_true rfl) W9.kx (wg_HS_shopAtRank W9 hG) ?_
    refine g_top (y := -1) (by rw [← Q_rank_J s8.2 (fun j hj => J.2.2 j hj 8 (by decide)) sc (Nat.le_refl _)]; exact Q_rank_no (fun a ha z => nI_pos (n := P_rank L.2.2 a sc) (by have := P_rank_lt (s := L.2.2) sc ha; omega) (by rw [z]; decide)) sc (Nat.le_refl _)) ?_
    refine g_iconst (pc := 374) (v := (-1)) d_LW_seen_374 (by decide) ?_
    refine g_icmp_ne (pc := 375) (tgt := 419) d_LW_seen_375 (by decide) (fun c_375 => ?_) (fun c_375 => ?_)
    · exact absurd rfl c_375
    · skip
      refine g_aload_n (pc := 378) d_LW_seen_378 rfl 4 rfl ?_
      refine g_cV1 (pc := 379) (ci := 0) (As := []) d_LW_seen_379 rfl mv_HS_mostFined st_LW_seen_314 rfl rfl (by decide) rfl rfl (Nat.le_of_ble_eq_true rfl) W9.kx (wg_HS_mostFined W9 hG) ?_
      refine g_top (y := nI (Q_fined L.2.2 (sc - 1))) (by rw [Q_fined_J (fun j hj => J.2.2 j hj 13 (by decide)) _ (by omega)]) ?_
      refine g_iload (pc := 382) d_LW_seen_382 2 rfl ?_
      refine g_icmp_ne (pc := 384) (tgt := 419) d_LW_seen_384 (by decide) (fun c_384 => ?_) (fun c_384 => ?_)
      · exact absurd rfl c_384
      · skip
        refine g_aload_n (pc := 387) d_LW_seen_387 rfl 4 rfl ?_
        refine g_cV1 (pc := 388) (ci := 0) (As := []) d_LW_seen_388 rfl mv_HS_meanExcess st_LW_seen_317 rfl rfl (by decide) rfl rfl (Nat.le_of_ble_eq_true rfl) W9.kx (wg_HS_meanExcess W9 hG) ?_
        rw [← Q_sum_J J sc (Nat.le_refl _)]
        refine g_iload_n (pc := 391) d_LW_seen_391 rfl 0 rfl ?_
        refine g_i2d (pc := 392) d_LW_seen_392 ?_
        refine g_iload (pc := 393) d_LW_seen_393 3 rfl ?_
        refine g_i2d (pc := 395) d_LW_seen_395 ?_
        refine g_ddiv (pc := 396) d_LW_seen_396 (by exact fd_n64 _ (nI_ne0 s8.1 (by omega))) ?_
        refine g_dcmp (pc := 397) d_LW_seen_397 ?_
        refine g_top (dq_0 _ (nI_ne0 s8.1 (by omega))) ?_
        refine g_if_ne (pc := 398) (tgt := 419) d_LW_seen_398 (by decide) (fun c_398 => ?_) (fun c_398 => ?_)
        · exact absurd rfl c_398
        · skip
          refine g_aload_n (pc := 401) d_LW_seen_401 rfl 4 rfl ?_
          refine g_cV1 (pc := 402) (ci := 0) (As := []) d_LW_seen_402 rfl mv_HS_trueShare st_LW_seen_321 rfl rfl (by decide) rfl rfl (Nat.le_of_ble_eq_true rfl) W9.kx (wg_HS_trueShare W9 hG) ?_
          rw [← Q_true_J J sc (Nat.le_refl _)]
          refine g_iload_n (pc := 405) d_LW_seen_405 rfl 1 rfl ?_
          refine g_i2f (pc := 406) d_LW_seen_406 ?_
          refine g_iload (pc := 407) d_LW_seen_407 3 rfl ?_
          refine g_i2f (pc := 409) d_LW_seen_409 ?_
          refine g_fdiv (pc := 410) d_LW_seen_410 (by exact fd_n32 _ (nI_ne0 s8.1 (by omega))) ?_
          refine g_fcmp (pc := 411) d_LW_seen_411 ?_
          refine g_top (fq_0 _ (nI_ne0 s8.1 (by omega))) ?_
          refine g_if_ne (pc := 412) (tgt := 419) d_LW_seen_412 (by decide) (fun c_412 => ?_) (fun c_412 => ?_)
          · exact absurd rfl c_412
          · skip
            refine g_iconst (pc := 415) (v := 1) d_LW_seen_415 (by decide) ?_
            refine g_goto (pc := 416) (tgt := 420) d_LW_seen_416 (by decide) ?_
            refine g_zret (pc := 420) d_LW_seen_420 rfl rfl ?_
            exact ⟨rfl, rfl⟩
