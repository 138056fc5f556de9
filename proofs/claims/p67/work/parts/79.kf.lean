/-! THE LAW: same -/
def Q_c (B : Bu) (sc : Nat) : Int32 := Q_coin (P_money B.2.2 sc - B.1 10) B.2.2 sc
theorem Gd.op {B : Bu} {nw sc ni U i : Nat} (h : Gd B nw sc ni U) (hi : i < sc) : bI (decide (B.2.2 i 12 ≠ 0)) = B.2.2 i 12 := by
  rcases (h.2.2 i hi).1 with e | e <;> rw [e] <;> rfl
set_option maxRecDepth 20000 in
theorem lp_LW_same {E : En} {h : Hp} {A γ : Nat → Nat} {n nw sc ni U : Nat} {L B : Bu} (HL : LbOk h (A 23) nw sc) (W : WS (wT h (A 23) sc L) A γ n nw sc L B) (hG : Gd B nw sc ni U) (J : Jq nw sc L B) (hz : Q_c B sc = 0) : ∀ (d i : Nat), i ≤ sc → sc - i < d → G E m_LW_same 86 [(2, .int (nI i)), (0, .ref (A 22)), (1, .ref (A 23))] [] (wT h (A 23) sc L) 0 0 (fun v h9 => v = some (.int 1) ∧ h9 = (wT h (A 23) sc L)) noX := by
  intro d
  induction d with
  | zero => intros; omega
  | succ d ih =>
    intro i hi hd
    have s8 := HL.s8
    refine g_iload_n (pc := 86) d_LW_same_86 rfl 0 rfl ?_
    refine g_aload_n (pc := 87) d_LW_same_87 rfl 2 rfl ?_
    refine g_th2 (pc := 88) d_LW_same_88 fl_LW_45 HL ?_
    refine g_tsn (pc := 91) d_LW_same_91 HL ?_
    refine g_icmp_ge (pc := 92) (tgt := 242) d_LW_same_92 (by decide) (fun c_92 => ?_) (fun c_92 => ?_)
    · skip
      have eq9 : i = sc := by have := (nI_leI9 (a := sc) (b := i) (by omega) (by omega)).mp c_92; omega
      refine g_aload_n (pc := 242) d_LW_same_242 rfl 1 rfl ?_
      refine g_cV1 (pc := 243) (ci := 0) (As := []) d_LW_same_243 rfl mv_HS_coinError st_LW_same_242 rfl rfl (by decide) rfl rfl (Nat.le_of_ble_eq_true rfl) W.kx (wg_HS_coinError W hG) ?_
      refine g_top (y := 0) hz ?_
      refine g_if_ne (pc := 246) (tgt := 253) d_LW_same_246 (by decide) (fun c_246 => ?_) (fun c_246 => ?_)
      · exact absurd rfl c_246
      · skip
        refine g_iconst (pc := 249) (v := 1) d_LW_same_249 (by decide) ?_
        refine g_goto (pc := 250) (tgt := 254) d_LW_same_250 (by decide) ?_
        refine g_zret (pc := 254) d_LW_same_254 rfl rfl ?_
        exact ⟨rfl, rfl⟩
    · skip
      have hi9 : i < sc := Nat.lt_of_not_le (fun z => c_92 ((nI_leI9 (by omega) (by omega)).mpr z))
      refine g_aload_n (pc := 95) d_LW_same_95 rfl 2 rfl ?_
      refine g_th2 (pc := 96) d_LW_same_96 fl_LW_45 HL ?_
      refine g_iload_n (pc := 99) d_LW_same_99 rfl 0 rfl ?_
      refine g_tsl (pc := 100) (i := i) d_LW_same_100 HL (by first | assumption | omega) ?_
      refine g_astore_n (pc := 101) (lv' := [(3, .ref (tw h (A 23) i)), (2, .int (nI i)), (0, .ref (A 22)), (1, .ref (A 23))]) d_LW_same_101 rfl (by decide) rfl ?_
      refine g_aload_n (pc := 102) d_LW_same_102 rfl 2 rfl ?_
      refine g_iload_n (pc := 103) d_LW_same_103 rfl 1 rfl ?_
      refine g_cV1 (pc := 104) (ci := 0) (As := [.int _]) d_LW_same_104 rfl mv_HS_purse st_LW_same_215 rfl rfl (by decide) rfl rfl (Nat.le_of_ble_eq_true rfl) W.kx (wg_HS_purse W hG hi9) ?_
      refine g_top (y := L.2.2 i 0) (J.2.2 i hi9 0 (by decide)).symm ?_
      refine g_aload_n (pc := 107) d_LW_same_107 rfl 0 rfl ?_
      refine g_ttI (pc := 108) (f := 0) rfl d_LW_same_108 fl_LW_71 HL (by first | assumption | omega) ?_
      refine g_icmp_ne (pc := 111) (tgt := 234) d_LW_same_111 (by decide) (fun c_111 => ?_) (fun c_111 => ?_)
      · exact absurd rfl c_111
      · skip
        refine g_aload_n (pc := 114) d_LW_same_114 rfl 2 rfl ?_
        refine g_iload_n (pc := 115) d_LW_same_115 rfl 1 rfl ?_
        refine g_cV1 (pc := 116) (ci := 0) (As := [.int _]) d_LW_same_116 rfl mv_HS_offset st_LW_same_217 rfl rfl (by decide) rfl rfl (Nat.le_of_ble_eq_true rfl) W.kx (wg_HS_offset W hG hi9) ?_
        refine g_top (y := L.2.2 i 1) (J.2.2 i hi9 1 (by decide)).symm ?_
        refine g_aload_n (pc := 119) d_LW_same_119 rfl 0 rfl ?_
        refine g_ttI (pc := 120) (f := 1) rfl d_LW_same_120 fl_LW_75 HL (by first | assumption | omega) ?_
        refine g_icmp_ne (pc := 123) (tgt := 234) d_LW_same_123 (by decide) (fun c_123 => ?_) (fun c_123 => ?_)
        · exact absurd rfl c_123
        · skip
          refine g_aload_n (pc := 126) d_LW_same_126 rfl 2 rfl ?_
          refine g_iload_n (pc := 127) d_LW_same_127 rfl 1 rfl ?_
          refine g_cV1 (pc := 128) (ci := 0) (As := [.int _]) d_LW_same_128 rfl mv_HS_slope st_LW_same_219 rfl rfl (by decide) rfl rfl (Nat.le_of_ble_eq_true rfl) W.kx (wg_HS_slope W hG hi9) ?_
          refine g_top (y := L.2.2 i 2) (J.2.2 i hi9 2 (by decide)).symm ?_
          refine g_aload_n (pc := 131) d_LW_same_131 rfl 0 rfl ?_
          refine g_ttI (pc := 132) (f := 2) rfl d_LW_same_132 fl_LW_78 HL (by first | assumption | omega) ?_
          refine g_icmp_ne (pc := 135) (tgt := 234) d_LW_same_135 (by decide) (fun c_135 => ?_) (fun c_135 => ?_)
          · exact absurd rfl c_135
          · skip
            refine g_aload_n (pc := 138) d_LW_same_138 rfl 2 rfl ?_
            refine g_iload_n (pc := 139) d_LW_same_139 rfl 1 rfl ?_
            refine g_cV1 (pc := 140) (ci := 0) (As := [.int _]) d_LW_same_140 rfl mv_HS_thumb st_LW_same_221 rfl rfl (by decide) rfl rfl (Nat.le_of_ble_eq_true rfl) W.kx (wg_HS_thumb W hG hi9) ?_
            refine g_top (y := L.2.2 i 6) (J.2.2 i hi9 6 (by decide)).symm ?_
            refine g_aload_n (pc := 143) d_LW_same_143 rfl 0 rfl ?_
            refine g_ttI (pc := 144) (f := 6) rfl d_LW_same_144 fl_LW_90 HL (by first | assumption | omega) ?_
            refine g_icmp_ne (pc := 147) (tgt := 234) d_LW_same_147 (by decide) (fun c_147 => ?_) (fun c_147 => ?_)
            · exact absurd rfl c_147
            · skip
              refine g_aload_n (pc := 150) d_LW_same_150 rfl 2 rfl ?_
              refine g_iload_n (pc := 151) d_LW_same_151 rfl 1 rfl ?_
              refine g_cV1 (pc := 152) (ci := 0) (As := [.int _]) d_LW_same_152 rfl mv_HS_complaints st_LW_same_223 rfl rfl (by decide) rfl rfl (Nat.le_of_ble_eq_true rfl) W.kx (wg_HS_complaints W hG hi9) ?_
              refine g_top (y := L.2.2 i 8) (J.2.2 i hi9 8 (by decide)).symm ?_
              refine g_aload_n (pc := 155) d_LW_same_155 rfl 0 rfl ?_
              refine g_ttI (pc := 156) (f := 8) rfl d_LW_same_156 fl_LW_144 HL (by first | assumption | omega) ?_
              refine g_icmp_ne (pc := 159) (tgt := 234) d_LW_same_159 (by decide) (fun c_159 => ?_) (fun c_159 => ?_)
              · exact absurd rfl c_159
              · skip
                refine g_aload_n (pc := 162) d_LW_same_162 rfl 2 rfl ?_
                refine g_iload_n (pc := 163) d_LW_same_163 rfl 1 rfl ?_
                refine g_cV1 (pc := 164) (ci := 0) (As := [.int _]) d_LW_same_164 rfl mv_HS_failures st_LW_same_225 rfl rfl (by decide) rfl rfl (Nat.le_of_ble_eq_true rfl) W.kx (wg_HS_failures W hG hi9) ?_
                refine g_top (y := L.2.2 i 9) (J.2.2 i hi9 9 (by decide)).symm ?_
                refine g_aload_n (pc := 167) d_LW_same_167 rfl 0 rfl ?_
                refine g_ttI (pc := 168) (f := 9) rfl d_LW_same_168 fl_LW_154 HL (by first | assumption | omega) ?_
                refine g_icmp_ne (pc := 171) (tgt := 234) d_LW_same_171 (by decide) (fun c_171 => ?_) (fun c_171 => ?_)
                · exact absurd rfl c_171
                · skip
                  refine g_aload_n (pc := 174) d_LW_same_174 rfl 2 rfl ?_
                  refine g_iload_n (pc := 175) d_LW_same_175 rfl 1 rfl ?_
                  refine g_cV1 (pc := 176) (ci := 0) (As := [.int _]) d_LW_same_176 rfl mv_HS_latestVisit st_LW_same_227 rfl rfl (by decide) rfl rfl (Nat.le_of_ble_eq_true rfl) W.kx (wg_HS_latestVisit W hG hi9) ?_
                  refine g_top (y := L.2.2 i 10) (J.2.2 i hi9 10 (by decide)).symm ?_
                  refine g_aload_n (pc := 179) d_LW_same_179 rfl 0 rfl ?_
                  refine g_ttI (pc := 180) (f := 10) rfl d_LW_same_180 fl_LW_141 HL (by first | assumption | omega) ?_
                  refine g_icmp_ne (pc := 183) (tgt := 234) d_LW_same_183 (by decide) (fun c_183 => ?_) (fun c_183 => ?_)
                  · exact absurd rfl c_183
                  · skip
                    refine g_aload_n (pc := 186) d_LW_same_186 rfl 2 rfl ?_
                    refine g_iload_n (pc := 187) d_LW_same_187 rfl 1 rfl ?_
                    refine g_cV1 (pc := 188) (ci := 0) (As := [.int _]) d_LW_same_188 rfl mv_HS_stampedUntil st_LW_same_230 rfl rfl (by decide) rfl rfl (Nat.le_of_ble_eq_true rfl) W.kx (wg_HS_stampedUntil W hG hi9) ?_
                    refine g_top (y := L.2.2 i 11) (J.2.2 i hi9 11 (by decide)).symm ?_
                    refine g_aload_n (pc := 191) d_LW_same_191 rfl 0 rfl ?_
                    refine g_ttI (pc := 192) (f := 11) rfl d_LW_same_192 fl_LW_135 HL (by first | assumption | omega) ?_
                    refine g_icmp_ne (pc := 195) (tgt := 234) d_LW_same_195 (by decide) (fun c_195 => ?_) (fun c_195 => ?_)
                    · exact absurd rfl c_195
                    · skip
                      refine g_aload_n (pc := 198) d_LW_same_198 rfl 2 rfl ?_
                      refine g_iload_n (pc := 199) d_LW_same_199 rfl 1 rfl ?_
                      refine g_cV1 (pc := 200) (ci := 0) (As := [.int _]) d_LW_same_200 rfl mv_HS_isOpen st_LW_same_233 rfl rfl (by decide) rfl rfl (Nat.le_of_ble_eq_true rfl) W.kx (wg_HS_isOpen W hG hi9) ?_
                      refine g_top (y := L.2.2 i 12) ((hG.op hi9).trans (J.2.2 i hi9 12 (by decide)).symm) ?_
                      refine g_aload_n (pc := 203) d_LW_same_203 rfl 0 rfl ?_
                      refine g_ttI (pc := 204) (f := 12) rfl d_LW_same_204 fl_LW_157 HL (by first | assumption | omega) ?_
                      refine g_icmp_ne (pc := 207) (tgt := 234) d_LW_same_207 (by decide) (fun c_207 => ?_) (fun c_207 => ?_)
                      · exact absurd rfl c_207
                      · skip
                        refine g_aload_n (pc := 210) d_LW_same_210 rfl 2 rfl ?_
                        refine g_iload_n (pc := 211) d_LW_same_211 rfl 1 rfl ?_
                        refine g_cV1 (pc := 212) (ci := 0) (As := [.int _]) d_LW_same_212 rfl mv_HS_finesOf st_LW_same_236 rfl rfl (by decide) rfl rfl (Nat.le_of_ble_eq_true rfl) W.kx (wg_HS_finesOf W hG hi9) ?_
                        refine g_top (y := L.2.2 i 13) (J.2.2 i hi9 13 (by decide)).symm ?_
                        refine g_aload_n (pc := 215) d_LW_same_215 rfl 0 rfl ?_
                        refine g_ttI (pc := 216) (f := 13) rfl d_LW_same_216 fl_LW_151 HL (by first | assumption | omega) ?_
                        refine g_icmp_ne (pc := 219) (tgt := 234) d_LW_same_219 (by decide) (fun c_219 => ?_) (fun c_219 => ?_)
                        · exact absurd rfl c_219
                        · skip
                          refine g_aload_n (pc := 222) d_LW_same_222 rfl 2 rfl ?_
                          refine g_iload_n (pc := 223) d_LW_same_223 rfl 1 rfl ?_
                          refine g_cV1 (pc := 224) (ci := 0) (As := [.int _]) d_LW_same_224 rfl mv_HS_gainsOf st_LW_same_239 rfl rfl (by decide) rfl rfl (Nat.le_of_ble_eq_true rfl) W.kx (wg_HS_gainsOf W hG hi9) ?_
                          refine g_top (y := L.2.2 i 14) (J.2.2 i hi9 14 (by decide)).symm ?_
                          refine g_aload_n (pc := 227) d_LW_same_227 rfl 0 rfl ?_
                          refine g_ttI (pc := 228) (f := 14) rfl d_LW_same_228 fl_LW_183 HL (by first | assumption | omega) ?_
                          refine g_icmp_eq (pc := 231) (tgt := 236) d_LW_same_231 (by decide) (fun c_231 => ?_) (fun c_231 => ?_)
                          · skip
                            obtain ⟨x_1, hx_1⟩ : ∃ y : Int32, y = (nI i) + 1 := ⟨_, rfl⟩
                            refine g_iinc (pc := 236) (w := 1) (v := x_1) (lv' := [(2, .int x_1), (3, .ref (tw h (A 23) i)), (0, .ref (A 22)), (1, .ref (A 23))]) d_LW_same_236 rfl (by rw [hx_1]; rfl) (by decide) rfl ?_
                            refine g_goto (pc := 239) (tgt := 86) d_LW_same_239 (by decide) ?_
                            obtain rfl : x_1 = nI (i + 1) := by rw [hx_1]; exact nI_1 _
                            refine g_perm [0, 2, 3] rfl ?_
                            exact ih (i + 1) (by omega) (by omega)
                          · exact absurd rfl c_231
set_option maxRecDepth 20000 in
theorem cl_LW_same {E : En} {h : Hp} {A γ : Nat → Nat} {n nw sc ni U : Nat} {L B : Bu} (HL : LbOk h (A 23) nw sc) (W : WS (wT h (A 23) sc L) A γ n nw sc L B) (hG : Gd B nw sc ni U) (J : Jq nw sc L B) (hz : Q_c B sc = 0) : CR E m_LW_same [.ref (A 22), .ref (A 23)] (wT h (A 23) sc L) (some (.int 1)) ((wT h (A 23) sc L)) := by
  refine ct_of rfl (by decide +kernel) (Nat.le_of_ble_eq_true rfl) ?_
  show G E m_LW_same 0 [(0, .ref (A 22)), (1, .ref (A 23))] [] (wT h (A 23) sc L) 0 0 _ noX
  refine g_aload_n (pc := 0) d_LW_same_0 rfl 0 rfl ?_
  refine g_cV1 (pc := 1) (ci := 0) (As := []) d_LW_same_1 rfl mv_HS_day st_LW_same_108 rfl rfl (by decide) rfl rfl (Nat.le_of_ble_eq_true rfl) W.kx (wg_HS_day W hG) ?_
  refine g_top (y := L.1 9) (J.1 9 (by decide)).symm ?_
  refine g_aload_n (pc := 4) d_LW_same_4 rfl 1 rfl ?_
  refine g_th0 (pc := 5) d_LW_same_5 fl_LW_30 HL ?_
  refine g_bipush (pc := 8) (v := 7) d_LW_same_8 (by decide) ?_
  refine g_thl (pc := 10) (j := 7) d_LW_same_10 HL (by decide) ?_
  refine g_icmp_ne (pc := 11) (tgt := 82) d_LW_same_11 (by decide) (fun c_11 => ?_) (fun c_11 => ?_)
  · exact absurd rfl c_11
  · skip
    refine g_aload_n (pc := 14) d_LW_same_14 rfl 0 rfl ?_
    refine g_cV1 (pc := 15) (ci := 0) (As := []) d_LW_same_15 rfl mv_HS_seed st_LW_same_200 rfl rfl (by decide) rfl rfl (Nat.le_of_ble_eq_true rfl) W.kx (wg_HS_seed W hG) ?_
    refine g_top (y := L.1 6) (J.1 6 (by decide)).symm ?_
    refine g_aload_n (pc := 18) d_LW_same_18 rfl 1 rfl ?_
    refine g_th0 (pc := 19) d_LW_same_19 fl_LW_30 HL ?_
    refine g_bipush (pc := 22) (v := 6) d_LW_same_22 (by decide) ?_
    refine g_thl (pc := 24) (j := 6) d_LW_same_24 HL (by decide) ?_
    refine g_icmp_ne (pc := 25) (tgt := 82) d_LW_same_25 (by decide) (fun c_25 => ?_) (fun c_25 => ?_)
    · exact absurd rfl c_25
    · skip
      refine g_aload_n (pc := 28) d_LW_same_28 rfl 0 rfl ?_
      refine g_cV1 (pc := 29) (ci := 0) (As := []) d_LW_same_29 rfl mv_HS_bureauCoins st_LW_same_203 rfl rfl (by decide) rfl rfl (Nat.le_of_ble_eq_true rfl) W.kx (wg_HS_bureauCoins W hG) ?_
      refine g_top (y := L.1 10) (J.1 10 (by decide)).symm ?_
      refine g_aload_n (pc := 32) d_LW_same_32 rfl 1 rfl ?_
      refine g_th0 (pc := 33) d_LW_same_33 fl_LW_30 HL ?_
      refine g_bipush (pc := 36) (v := 8) d_LW_same_36 (by decide) ?_
      refine g_thl (pc := 38) (j := 8) d_LW_same_38 HL (by decide) ?_
      refine g_icmp_ne (pc := 39) (tgt := 82) d_LW_same_39 (by decide) (fun c_39 => ?_) (fun c_39 => ?_)
      · exact absurd rfl c_39
      · skip
        refine g_aload_n (pc := 42) d_LW_same_42 rfl 0 rfl ?_
        refine g_cV1 (pc := 43) (ci := 0) (As := []) d_LW_same_43 rfl mv_HS_visits st_LW_same_206 rfl rfl (by decide) rfl rfl (Nat.le_of_ble_eq_true rfl) W.kx (wg_HS_visits W hG) ?_
        refine g_top (y := L.1 11) (J.1 11 (by decide)).symm ?_
        refine g_aload_n (pc := 46) d_LW_same_46 rfl 1 rfl ?_
        refine g_th0 (pc := 47) d_LW_same_47 fl_LW_30 HL ?_
        refine g_bipush (pc := 50) (v := 9) d_LW_same_50 (by decide) ?_
        refine g_thl (pc := 52) (j := 9) d_LW_same_52 HL (by decide) ?_
        refine g_icmp_ne (pc := 53) (tgt := 82) d_LW_same_53 (by decide) (fun c_53 => ?_) (fun c_53 => ?_)
        · exact absurd rfl c_53
        · skip
          refine g_aload_n (pc := 56) d_LW_same_56 rfl 0 rfl ?_
          refine g_cV1 (pc := 57) (ci := 0) (As := []) d_LW_same_57 rfl mv_HS_fee st_LW_same_209 rfl rfl (by decide) rfl rfl (Nat.le_of_ble_eq_true rfl) W.kx (wg_HS_fee W hG) ?_
          refine g_top (y := L.1 2) (J.1 2 (by decide)).symm ?_
          refine g_aload_n (pc := 60) d_LW_same_60 rfl 1 rfl ?_
          refine g_th0 (pc := 61) d_LW_same_61 fl_LW_30 HL ?_
          refine g_iconst (pc := 64) (v := 2) d_LW_same_64 (by decide) ?_
          refine g_thl (pc := 65) (j := 2) d_LW_same_65 HL (by decide) ?_
          refine g_icmp_ne (pc := 66) (tgt := 82) d_LW_same_66 (by decide) (fun c_66 => ?_) (fun c_66 => ?_)
          · exact absurd rfl c_66
          · skip
            refine g_aload_n (pc := 69) d_LW_same_69 rfl 0 rfl ?_
            refine g_cV1 (pc := 70) (ci := 0) (As := []) d_LW_same_70 rfl mv_HS_inspectors st_LW_same_212 rfl rfl (by decide) rfl rfl (Nat.le_of_ble_eq_true rfl) W.kx (wg_HS_inspectors W hG) ?_
            refine g_top (y := L.1 5) (J.1 5 (by decide)).symm ?_
            refine g_aload_n (pc := 73) d_LW_same_73 rfl 1 rfl ?_
            refine g_th0 (pc := 74) d_LW_same_74 fl_LW_30 HL ?_
            refine g_iconst (pc := 77) (v := 5) d_LW_same_77 (by decide) ?_
            refine g_thl (pc := 78) (j := 5) d_LW_same_78 HL (by decide) ?_
            refine g_icmp_eq (pc := 79) (tgt := 84) d_LW_same_79 (by decide) (fun c_79 => ?_) (fun c_79 => ?_)
            · skip
              refine g_iconst (pc := 84) (v := 0) d_LW_same_84 (by decide) ?_
              refine g_istore_n (pc := 85) (lv' := [(2, .int (nI 0)), (0, .ref (A 22)), (1, .ref (A 23))]) d_LW_same_85 rfl (by decide) rfl ?_
              refine g_perm [0, 1, 2] rfl ?_
              exact lp_LW_same HL W hG J hz (sc + 1) 0 (by omega) (by omega)
            · exact absurd rfl c_79
