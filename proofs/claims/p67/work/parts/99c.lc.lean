/-! THE LAW: begun, its weights and numbers -/
set_option maxRecDepth 40000 in
theorem lp_bg2 {E : En} {A : Nat → Nat} {V0 : Bu} {nw sc nw0 sc0 ni0 U0 x lb : Nat} {pk : Nat → Nat → Nat} (pp : Pk pk) (hpk : ∀ k n, k < 1000 → 0 < n → n < 10000 → ∀ h, CR E m_LW_pick [.ref (eXa E), .int (nI k), .int (nI n)] h (some (.int (nI (pk k n)))) h) (hV : Gd V0 nw0 sc0 ni0 U0) (hn : 1 ≤ nw ∧ nw ≤ 4) (hs : 1 ≤ sc ∧ sc ≤ 6) (hx : A 22 = x) (hlb : A 23 = lb) : ∀ (d q : Nat) (h : Hp) (γ : Nat → Nat) (a : Nat), q ≤ nw → nw - q < d → BG h A γ V0 nw sc q 0 (hwP pk) (fun j => nI (gsP pk j)) (tvP pk) → SvL E h a (tB (hsP pk) (gsP pk) q) → G E m_LW_begun 212 [(4, .int (nI q)), (3, .ref a), (0, .ref x), (1, .ref (eXa E)), (2, .ref lb)] [] h (260 + 8 * (nw - q)) (93000 + 2500 * (nw - q)) (BgP x) noX := by
  intro d
  induction d with
  | zero => intros; omega
  | succ d ih =>
    intro q h γ a hq hd B sv
    have hl := tB_l (hs := hsP pk) (gs := gsP pk) (nw := nw) (fun k hk => ((Hb_P pp hn hs).1 k hk).2.2) (fun k hk => by
      have := gs_b pp (j := k) (by omega)
      omega) q (by omega)
    obtain ⟨k_lb, r_lb_0, r_lb_1, r_lb_2⟩ := B.k23
    rw [hlb] at k_lb r_lb_0 r_lb_1 r_lb_2
    refine g_iload (pc := 212) d_LW_begun_212 0 rfl ?_
    refine g_aload_n (pc := 214) d_LW_begun_214 rfl 4 rfl ?_
    refine g_getR (pc := 215) (ci := 7) (f := 1) (b := (A 25)) rfl r_lb_1 d_LW_begun_215 fl_LW_40 (by decide) k_lb ?_
    refine g_alenI (pc := 218) B.k25.1 B.k25.2 d_LW_begun_218 ?_
    refine g_icmp_ge (pc := 219) (tgt := 285) d_LW_begun_219 (by decide) (fun c_219 => ?_) (fun c_219 => ?_)
    · skip
      have eq9 : q = nw := by have := (nI_leI9 (a := nw) (b := q) (by omega) (by omega)).mp c_219; omega
      subst eq9
      refine G.mono (k := (250 + 7) + 1) (n := (91000 + 1990) + cNf 8) (by omega) (by
        have : cNf 8 ≤ 10 := by decide
        omega) ?_
      refine g_new (pc := 285) (ci := 8) d_LW_begun_285 cl_LW_begun_51 (by decide) (fun so hso => ?_)
      refine g_dup (pc := 288) d_LW_begun_288 rfl ?_
      refine g_callI (k := 250 + 6) (n := 91000 + 1974) (kz := 1) (nz := 16) (pc := 289) (As := []) (b := so) d_LW_begun_289 rfl mi_SB_init st_LW_begun_53 rfl rfl (Nat.le_of_ble_eq_true rfl) (cq_SB_init hso) (fun _ _ z => z.elim) (fun v hb z => ?_)
      obtain ⟨rfl, ex0, y0⟩ := z
      have Y : SbY h hb so ([] : List Int32) ([] : List Int32).length := SbY.nil ex0 y0
      refine g_aload_n (pc := 292) d_LW_begun_292 rfl 1 rfl ?_
      refine g_callV (k := 250 + 5) (n := 91000 + 1274) (kz := 1) (nz := 700) (pc := 293) (ci := 8) (As := [.ref _]) d_LW_begun_293 rfl mv_SB_appendS st_LW_begun_54 rfl rfl (by decide) (SbY.kd Y) rfl rfl (Nat.le_of_ble_eq_true rfl) (cq_SB_appendS Y sv (by simp only [List.length_append, List.length_nil, ln4, ln5, ln6, ln7, dg_len]; omega)) (fun _ _ z => z.elim) (fun v hb z => ?_)
      obtain ⟨rfl, Y⟩ := z
      refine g_ldcs (pc := 296) d_LW_begun_296 7 rfl ?_
      refine g_callV (k := 250 + 4) (n := 91000 + 574) (kz := 1) (nz := 700) (pc := 298) (ci := 8) (As := [.ref _]) d_LW_begun_298 rfl mv_SB_appendS st_LW_begun_54 rfl rfl (by decide) (SbY.kd Y) rfl rfl (Nat.le_of_ble_eq_true rfl) (cq_SB_appendS Y (SvL.con (i := 6) (by decide)) (by simp only [List.length_append, List.length_nil, ln4, ln5, ln6, ln7, dg_len]; omega)) (fun _ _ z => z.elim) (fun v hb z => ?_)
      obtain ⟨rfl, Y⟩ := z
      refine g_callV (k := 250 + 2) (n := 91000 + 270) (kz := 2) (nz := 304) (pc := 301) (ci := 8) (As := []) d_LW_begun_301 rfl mv_SB_toString st_LW_begun_62 rfl rfl (by decide) (SbY.kd Y) rfl rfl (Nat.le_of_ble_eq_true rfl) (cq_SB_toString Y (by simp only [List.length_append, List.length_nil, ln4, ln5, ln6, ln7, dg_len]; omega)) (fun _ _ z => z.elim) (fun v h9 z => ?_)
      obtain ⟨a9, rfl, ha9, ex9, sv9, nw9⟩ := z
      have E9 : Ext h h9 := Y.1.trans ex9
      have el : ((([] : List Int32) ++ (tB (hsP pk) (gsP pk) q)) ++ strB.getD 6 []) = (tC (hsP pk) (gsP pk) (rsP pk) q 0) := by rw [tC_0, List.nil_append]
      rw [el] at sv9
      have B9 := B.ext E9
      refine g_astore_n (pc := 304) (lv' := [(3, .ref a9), (4, .int (nI q)), (0, .ref x), (1, .ref (eXa E)), (2, .ref lb)]) d_LW_begun_304 rfl (by decide) rfl ?_
      refine g_iconst (pc := 305) (v := 0) d_LW_begun_305 (by decide) ?_
      refine g_istore (pc := 306) (lv' := [(4, .int (nI 0)), (3, .ref a9), (0, .ref x), (1, .ref (eXa E)), (2, .ref lb)]) d_LW_begun_306 (by decide) rfl ?_
      refine g_perm [0, 1, 2, 3, 4] rfl ?_
      exact G.mono (by omega) (by omega) (lp_bg3 pp hpk hV hn hs (sc + 1) 0 h9 A _ a9 (by omega) (by omega) B9 sv9 (fun z => absurd z (Nat.lt_irrefl 0)) hx hlb)
    · skip
      have hq9 : q < nw := Nat.lt_of_not_le (fun z => c_219 ((nI_leI9 (by omega) (by omega)).mpr z))
      have d4 := dl4 (show gsP pk q < 10000 by have := gs_b pp (j := q) (by omega); omega)
      refine g_aload_n (pc := 222) d_LW_begun_222 rfl 4 rfl ?_
      refine g_getR (pc := 223) (ci := 7) (f := 1) (b := (A 25)) rfl r_lb_1 d_LW_begun_223 fl_LW_40 (by decide) k_lb ?_
      refine g_iload (pc := 226) d_LW_begun_226 0 rfl ?_
      refine g_iconst (pc := 228) (v := 1) d_LW_begun_228 (by decide) ?_
      refine g_iload (pc := 229) d_LW_begun_229 0 rfl ?_
      refine g_iadd (pc := 231) d_LW_begun_231 ?_
      refine g_bipush (pc := 232) (v := 10) d_LW_begun_232 (by decide) ?_
      refine g_aload_n (pc := 234) d_LW_begun_234 rfl 3 rfl ?_
      refine g_bipush (pc := 235) (v := 9) d_LW_begun_235 (by decide) ?_
      refine g_iload (pc := 237) d_LW_begun_237 0 rfl ?_
      refine g_iadd (pc := 239) d_LW_begun_239 ?_
      refine g_sipush (pc := 240) (v := 400) d_LW_begun_240 (by decide) ?_
      refine g_top (y := nI 400) rfl ?_
      refine g_top2 (y := nI (9 + q)) (nI_add 9 q) ?_
      refine g_cS1 (pc := 243) (As := [.ref _, .int _, .int _]) d_LW_begun_243 rfl ms_LW_pick st_LW_begun_34 rfl rfl (Nat.le_of_ble_eq_true rfl) (hpk (9 + q) 400 (by omega) (by decide) (by decide) _) ?_
      refine g_imul (pc := 246) d_LW_begun_246 ?_
      refine g_iadd (pc := 247) d_LW_begun_247 ?_
      refine g_top (y := nI (gsP pk q)) (by
        show nI 1 + nI q + nI 10 * nI (pk (9 + q) 400) = _
        rw [nI_add, nI_mul, nI_add]
        rfl) ?_
      refine g_iastoreX (pc := 248) (j := q) d_LW_begun_248 B.k25.1 (by rw [B.k25.2]; exact hq9) (by rw [B.k25.2]; omega) ?_
      have B1 := B.w (v := nI (gsP pk q)) rfl
      have sv1 := sv.sI (k := q) (v := nI (gsP pk q)) B.k25.1
      clear k_lb r_lb_0 r_lb_1 r_lb_2
      revert B1 sv1
      generalize sI h (A 25) q (nI (gsP pk q)) = h1
      intro B1 sv1
      refine G.mono (k := (260 + 8 * (nw - (q + 1)) + 7) + 1) (n := (93000 + 2500 * (nw - (q + 1)) + 2490) + cNf 8) (by omega) (by
        have : cNf 8 ≤ 10 := by decide
        omega) ?_
      refine g_new (pc := 249) (ci := 8) d_LW_begun_249 cl_LW_begun_51 (by decide) (fun so hso => ?_)
      refine g_dup (pc := 252) d_LW_begun_252 rfl ?_
      refine g_callI (k := 260 + 8 * (nw - (q + 1)) + 6) (n := 93000 + 2500 * (nw - (q + 1)) + 2474) (kz := 1) (nz := 16) (pc := 253) (As := []) (b := so) d_LW_begun_253 rfl mi_SB_init st_LW_begun_53 rfl rfl (Nat.le_of_ble_eq_true rfl) (cq_SB_init hso) (fun _ _ z => z.elim) (fun v hb z => ?_)
      obtain ⟨rfl, ex0, y0⟩ := z
      have Y : SbY h1 hb so ([] : List Int32) ([] : List Int32).length := SbY.nil ex0 y0
      refine g_aload_n (pc := 256) d_LW_begun_256 rfl 1 rfl ?_
      refine g_callV (k := 260 + 8 * (nw - (q + 1)) + 5) (n := 93000 + 2500 * (nw - (q + 1)) + 1774) (kz := 1) (nz := 700) (pc := 257) (ci := 8) (As := [.ref _]) d_LW_begun_257 rfl mv_SB_appendS st_LW_begun_54 rfl rfl (by decide) (SbY.kd Y) rfl rfl (Nat.le_of_ble_eq_true rfl) (cq_SB_appendS Y sv1 (by simp only [List.length_append, List.length_nil, ln4, ln5, ln6, ln7, dg_len]; omega)) (fun _ _ z => z.elim) (fun v hb z => ?_)
      obtain ⟨rfl, Y⟩ := z
      refine g_ldcs (pc := 260) d_LW_begun_260 5 rfl ?_
      refine g_callV (k := 260 + 8 * (nw - (q + 1)) + 4) (n := 93000 + 2500 * (nw - (q + 1)) + 1074) (kz := 1) (nz := 700) (pc := 262) (ci := 8) (As := [.ref _]) d_LW_begun_262 rfl mv_SB_appendS st_LW_begun_54 rfl rfl (by decide) (SbY.kd Y) rfl rfl (Nat.le_of_ble_eq_true rfl) (cq_SB_appendS Y (SvL.con (i := 4) (by decide)) (by simp only [List.length_append, List.length_nil, ln4, ln5, ln6, ln7, dg_len]; omega)) (fun _ _ z => z.elim) (fun v hb z => ?_)
      obtain ⟨rfl, Y⟩ := z
      refine g_aload_n (pc := 265) d_LW_begun_265 rfl 4 rfl ?_
      have BY := B1.ext Y.1
      refine g_getR (pc := 266) (ci := 7) (f := 1) (b := A 25) rfl (by rw [← hlb]; exact BY.k23.2.2.1) d_LW_begun_266 fl_LW_40 (by decide) (by rw [← hlb]; exact BY.k23.1) ?_
      refine g_iload (pc := 269) d_LW_begun_269 0 rfl ?_
      refine g_ialoadX (pc := 271) (nI (gsP pk q)) (j := q) d_LW_begun_271 BY.k25.1 (by rw [BY.k25.2]; exact hq9) (by rw [BY.k25.2]; omega) (BY.v25 q (Nat.lt_succ_self q)) ?_
      refine g_callV (k := 260 + 8 * (nw - (q + 1)) + 3) (n := 93000 + 2500 * (nw - (q + 1)) + 374) (kz := 1) (nz := 700) (pc := 272) (ci := 8) (As := [.int _]) d_LW_begun_272 rfl mv_SB_appendI st_LW_begun_59 rfl rfl (by decide) (SbY.kd Y) rfl rfl (Nat.le_of_ble_eq_true rfl) (cq_SB_appendI (w := (gsP pk q)) Y (by have := gs_b pp (j := q) (by omega); omega) (by simp only [List.length_append, List.length_nil, ln4, ln5, ln6, ln7, dg_len]; omega)) (fun _ _ z => z.elim) (fun v hb z => ?_)
      obtain ⟨rfl, Y⟩ := z
      refine g_callV (k := 260 + 8 * (nw - (q + 1)) + 1) (n := 93000 + 2500 * (nw - (q + 1)) + 70) (kz := 2) (nz := 304) (pc := 275) (ci := 8) (As := []) d_LW_begun_275 rfl mv_SB_toString st_LW_begun_62 rfl rfl (by decide) (SbY.kd Y) rfl rfl (Nat.le_of_ble_eq_true rfl) (cq_SB_toString Y (by simp only [List.length_append, List.length_nil, ln4, ln5, ln6, ln7, dg_len]; omega)) (fun _ _ z => z.elim) (fun v h9 z => ?_)
      obtain ⟨a9, rfl, ha9, ex9, sv9, nw9⟩ := z
      have E9 : Ext h1 h9 := Y.1.trans ex9
      have el : (((([] : List Int32) ++ (tB (hsP pk) (gsP pk) q)) ++ strB.getD 4 []) ++ dgF (gsP pk q) (dgL (gsP pk q))) = (tB (hsP pk) (gsP pk) (q + 1)) := by rw [tB_s, List.nil_append]
      rw [el] at sv9
      have B9 := B1.ext E9
      refine g_astore_n (pc := 278) (lv' := [(3, .ref a9), (4, .int (nI q)), (0, .ref x), (1, .ref (eXa E)), (2, .ref lb)]) d_LW_begun_278 rfl (by decide) rfl ?_
      obtain ⟨x_1, hx_1⟩ : ∃ y : Int32, y = (nI q) + 1 := ⟨_, rfl⟩
      refine g_iinc (pc := 279) (w := 1) (v := x_1) (lv' := [(4, .int x_1), (3, .ref a9), (0, .ref x), (1, .ref (eXa E)), (2, .ref lb)]) d_LW_begun_279 rfl (by rw [hx_1]; rfl) (by decide) rfl ?_
      refine g_goto (pc := 282) (tgt := 212) d_LW_begun_282 (by decide) ?_
      obtain rfl : x_1 = nI (q + 1) := by rw [hx_1]; exact nI_1 _
      refine g_perm [0, 1, 2, 3, 4] rfl ?_
      exact G.mono (by omega) (by omega) (ih (q + 1) h9 _ a9 (by omega) (by omega) B9 sv9)
set_option maxRecDepth 40000 in
theorem lp_bg1 {E : En} {A : Nat → Nat} {V0 : Bu} {nw sc nw0 sc0 ni0 U0 x lb : Nat} {pk : Nat → Nat → Nat} (pp : Pk pk) (hpk : ∀ k n, k < 1000 → 0 < n → n < 10000 → ∀ h, CR E m_LW_pick [.ref (eXa E), .int (nI k), .int (nI n)] h (some (.int (nI (pk k n)))) h) (hV : Gd V0 nw0 sc0 ni0 U0) (hn : 1 ≤ nw ∧ nw ≤ 4) (hs : 1 ≤ sc ∧ sc ≤ 6) (hx : A 22 = x) (hlb : A 23 = lb) : ∀ (d q : Nat) (h : Hp) (γ : Nat → Nat) (a : Nat), q ≤ 7 → 7 - q < d → BG h A γ V0 nw sc 0 0 (hwP pk) (fun j => nI (gsP pk j)) (tvP pk) → SvL E h a (tA (hsP pk) q) → G E m_LW_begun 146 [(4, .int (nI q)), (3, .ref a), (0, .ref x), (1, .ref (eXa E)), (2, .ref lb)] [] h (300 + 8 * (7 - q)) (105000 + 2500 * (7 - q)) (BgP x) noX := by
  intro d
  induction d with
  | zero => intros; omega
  | succ d ih =>
    intro q h γ a hq hd B sv
    have hl := tA_l (hs := hsP pk) (fun k hk => ((Hb_P pp hn hs).1 k hk).2.2) q (by omega)
    refine g_iload (pc := 146) d_LW_begun_146 0 rfl ?_
    refine g_bipush (pc := 148) (v := 7) d_LW_begun_148 (by decide) ?_
    refine g_icmp_ge (pc := 150) (tgt := 189) d_LW_begun_150 (by decide) (fun c_150 => ?_) (fun c_150 => ?_)
    · skip
      have eq9 : q = 7 := by have := (nI_leI9 (a := 7) (b := q) (by decide) (by omega)).mp c_150; omega
      rw [eq9] at sv hl
      refine G.mono (k := (292 + 7) + 1) (n := (103000 + 1990) + cNf 8) (by omega) (by
        have : cNf 8 ≤ 10 := by decide
        omega) ?_
      refine g_new (pc := 189) (ci := 8) d_LW_begun_189 cl_LW_begun_51 (by decide) (fun so hso => ?_)
      refine g_dup (pc := 192) d_LW_begun_192 rfl ?_
      refine g_callI (k := 292 + 6) (n := 103000 + 1974) (kz := 1) (nz := 16) (pc := 193) (As := []) (b := so) d_LW_begun_193 rfl mi_SB_init st_LW_begun_53 rfl rfl (Nat.le_of_ble_eq_true rfl) (cq_SB_init hso) (fun _ _ z => z.elim) (fun v hb z => ?_)
      obtain ⟨rfl, ex0, y0⟩ := z
      have Y : SbY h hb so ([] : List Int32) ([] : List Int32).length := SbY.nil ex0 y0
      refine g_aload_n (pc := 196) d_LW_begun_196 rfl 1 rfl ?_
      refine g_callV (k := 292 + 5) (n := 103000 + 1274) (kz := 1) (nz := 700) (pc := 197) (ci := 8) (As := [.ref _]) d_LW_begun_197 rfl mv_SB_appendS st_LW_begun_54 rfl rfl (by decide) (SbY.kd Y) rfl rfl (Nat.le_of_ble_eq_true rfl) (cq_SB_appendS Y sv (by simp only [List.length_append, List.length_nil, ln4, ln5, ln6, ln7, dg_len]; omega)) (fun _ _ z => z.elim) (fun v hb z => ?_)
      obtain ⟨rfl, Y⟩ := z
      refine g_ldcs (pc := 200) d_LW_begun_200 6 rfl ?_
      refine g_callV (k := 292 + 4) (n := 103000 + 574) (kz := 1) (nz := 700) (pc := 202) (ci := 8) (As := [.ref _]) d_LW_begun_202 rfl mv_SB_appendS st_LW_begun_54 rfl rfl (by decide) (SbY.kd Y) rfl rfl (Nat.le_of_ble_eq_true rfl) (cq_SB_appendS Y (SvL.con (i := 5) (by decide)) (by simp only [List.length_append, List.length_nil, ln4, ln5, ln6, ln7, dg_len]; omega)) (fun _ _ z => z.elim) (fun v hb z => ?_)
      obtain ⟨rfl, Y⟩ := z
      refine g_callV (k := 292 + 2) (n := 103000 + 270) (kz := 2) (nz := 304) (pc := 205) (ci := 8) (As := []) d_LW_begun_205 rfl mv_SB_toString st_LW_begun_62 rfl rfl (by decide) (SbY.kd Y) rfl rfl (Nat.le_of_ble_eq_true rfl) (cq_SB_toString Y (by simp only [List.length_append, List.length_nil, ln4, ln5, ln6, ln7, dg_len]; omega)) (fun _ _ z => z.elim) (fun v h9 z => ?_)
      obtain ⟨a9, rfl, ha9, ex9, sv9, nw9⟩ := z
      have E9 : Ext h h9 := Y.1.trans ex9
      have el : ((([] : List Int32) ++ (tA (hsP pk) 7)) ++ strB.getD 5 []) = (tB (hsP pk) (gsP pk) 0) := by rw [tB_0, List.nil_append]
      rw [el] at sv9
      have B9 := B.ext E9
      refine g_astore_n (pc := 208) (lv' := [(3, .ref a9), (4, .int (nI q)), (0, .ref x), (1, .ref (eXa E)), (2, .ref lb)]) d_LW_begun_208 rfl (by decide) rfl ?_
      refine g_iconst (pc := 209) (v := 0) d_LW_begun_209 (by decide) ?_
      refine g_istore (pc := 210) (lv' := [(4, .int (nI 0)), (3, .ref a9), (0, .ref x), (1, .ref (eXa E)), (2, .ref lb)]) d_LW_begun_210 (by decide) rfl ?_
      refine g_perm [0, 1, 2, 3, 4] rfl ?_
      exact G.mono (by omega) (by omega) (lp_bg2 pp hpk hV hn hs hx hlb (nw + 1) 0 h9 _ a9 (by omega) (by omega) B9 sv9)
    · skip
      have hq9 : q < 7 := Nat.lt_of_not_le (fun z => c_150 ((nI_leI9 (a := 7) (b := q) (by decide) (by omega)).mpr z))
      have d5 := (dgL_pow ((Hb_P pp hn hs).1 q hq9).2.2).2.2
      refine G.mono (k := (300 + 8 * (7 - (q + 1)) + 7) + 1) (n := (105000 + 2500 * (7 - (q + 1)) + 2490) + cNf 8) (by omega) (by
        have : cNf 8 ≤ 10 := by decide
        omega) ?_
      refine g_new (pc := 153) (ci := 8) d_LW_begun_153 cl_LW_begun_51 (by decide) (fun so hso => ?_)
      refine g_dup (pc := 156) d_LW_begun_156 rfl ?_
      refine g_callI (k := 300 + 8 * (7 - (q + 1)) + 6) (n := 105000 + 2500 * (7 - (q + 1)) + 2474) (kz := 1) (nz := 16) (pc := 157) (As := []) (b := so) d_LW_begun_157 rfl mi_SB_init st_LW_begun_53 rfl rfl (Nat.le_of_ble_eq_true rfl) (cq_SB_init hso) (fun _ _ z => z.elim) (fun v hb z => ?_)
      obtain ⟨rfl, ex0, y0⟩ := z
      have Y : SbY h hb so ([] : List Int32) ([] : List Int32).length := SbY.nil ex0 y0
      refine g_aload_n (pc := 160) d_LW_begun_160 rfl 1 rfl ?_
      refine g_callV (k := 300 + 8 * (7 - (q + 1)) + 5) (n := 105000 + 2500 * (7 - (q + 1)) + 1774) (kz := 1) (nz := 700) (pc := 161) (ci := 8) (As := [.ref _]) d_LW_begun_161 rfl mv_SB_appendS st_LW_begun_54 rfl rfl (by decide) (SbY.kd Y) rfl rfl (Nat.le_of_ble_eq_true rfl) (cq_SB_appendS Y sv (by simp only [List.length_append, List.length_nil, ln4, ln5, ln6, ln7, dg_len]; omega)) (fun _ _ z => z.elim) (fun v hb z => ?_)
      obtain ⟨rfl, Y⟩ := z
      refine g_ldcs (pc := 164) d_LW_begun_164 5 rfl ?_
      refine g_callV (k := 300 + 8 * (7 - (q + 1)) + 4) (n := 105000 + 2500 * (7 - (q + 1)) + 1074) (kz := 1) (nz := 700) (pc := 166) (ci := 8) (As := [.ref _]) d_LW_begun_166 rfl mv_SB_appendS st_LW_begun_54 rfl rfl (by decide) (SbY.kd Y) rfl rfl (Nat.le_of_ble_eq_true rfl) (cq_SB_appendS Y (SvL.con (i := 4) (by decide)) (by simp only [List.length_append, List.length_nil, ln4, ln5, ln6, ln7, dg_len]; omega)) (fun _ _ z => z.elim) (fun v hb z => ?_)
      obtain ⟨rfl, Y⟩ := z
      refine g_aload_n (pc := 169) d_LW_begun_169 rfl 4 rfl ?_
      have BY := B.ext Y.1
      refine g_getR (pc := 170) (ci := 7) (f := 0) (b := A 24) rfl (by rw [← hlb]; exact BY.k23.2.1) d_LW_begun_170 fl_LW_30 (by decide) (by rw [← hlb]; exact BY.k23.1) ?_
      refine g_iload (pc := 173) d_LW_begun_173 0 rfl ?_
      refine g_ialoadX (pc := 175) (nI (hsP pk q)) (j := q) d_LW_begun_175 BY.k24.1 (by rw [BY.k24.2]; omega) (by rw [BY.k24.2]; decide) ((BY.v24 q (by omega)).trans (if_pos hq9)) ?_
      refine g_callV (k := 300 + 8 * (7 - (q + 1)) + 3) (n := 105000 + 2500 * (7 - (q + 1)) + 374) (kz := 1) (nz := 700) (pc := 176) (ci := 8) (As := [.int _]) d_LW_begun_176 rfl mv_SB_appendI st_LW_begun_59 rfl rfl (by decide) (SbY.kd Y) rfl rfl (Nat.le_of_ble_eq_true rfl) (cq_SB_appendI (w := (hsP pk q)) Y (by exact ((Hb_P pp hn hs).1 q hq9).2.2) (by simp only [List.length_append, List.length_nil, ln4, ln5, ln6, ln7, dg_len]; omega)) (fun _ _ z => z.elim) (fun v hb z => ?_)
      obtain ⟨rfl, Y⟩ := z
      refine g_callV (k := 300 + 8 * (7 - (q + 1)) + 1) (n := 105000 + 2500 * (7 - (q + 1)) + 70) (kz := 2) (nz := 304) (pc := 179) (ci := 8) (As := []) d_LW_begun_179 rfl mv_SB_toString st_LW_begun_62 rfl rfl (by decide) (SbY.kd Y) rfl rfl (Nat.le_of_ble_eq_true rfl) (cq_SB_toString Y (by simp only [List.length_append, List.length_nil, ln4, ln5, ln6, ln7, dg_len]; omega)) (fun _ _ z => z.elim) (fun v h9 z => ?_)
      obtain ⟨a9, rfl, ha9, ex9, sv9, nw9⟩ := z
      have E9 : Ext h h9 := Y.1.trans ex9
      have el : (((([] : List Int32) ++ (tA (hsP pk) q)) ++ strB.getD 4 []) ++ dgF (hsP pk q) (dgL (hsP pk q))) = (tA (hsP pk) (q + 1)) := by rw [tA_s, List.nil_append]
      rw [el] at sv9
      have B9 := B.ext E9
      refine g_astore_n (pc := 182) (lv' := [(3, .ref a9), (4, .int (nI q)), (0, .ref x), (1, .ref (eXa E)), (2, .ref lb)]) d_LW_begun_182 rfl (by decide) rfl ?_
      obtain ⟨x_1, hx_1⟩ : ∃ y : Int32, y = (nI q) + 1 := ⟨_, rfl⟩
      refine g_iinc (pc := 183) (w := 1) (v := x_1) (lv' := [(4, .int x_1), (3, .ref a9), (0, .ref x), (1, .ref (eXa E)), (2, .ref lb)]) d_LW_begun_183 rfl (by rw [hx_1]; rfl) (by decide) rfl ?_
      refine g_goto (pc := 186) (tgt := 146) d_LW_begun_186 (by decide) ?_
      obtain rfl : x_1 = nI (q + 1) := by rw [hx_1]; exact nI_1 _
      refine g_perm [0, 1, 2, 3, 4] rfl ?_
      exact G.mono (by omega) (by omega) (ih (q + 1) h9 _ a9 (by omega) (by omega) B9 sv9)
