/-! THE LAW: acted -/
def AcP (A : Nat → Nat) (n nw sc T : Nat) (v : Option Value) (h9 : Hp) : Prop := v = some (.int 1) ∧ ∃ γ' ni' L' B', WS h9 A γ' n nw sc L' B' ∧ PB nw sc ni' (T + 6) L' B'
theorem cE {E : En} {h : Hp} {A γ : Nat → Nat} {n nw sc : Nat} {L B : Bu} {Z : Mt} {as : List Value} {cn : String} (W : WS h A γ n nw sc L B) (c : ∀ b, hR h (A 22) 2 = some b → BuOk h b → CE E Z as (wB h b B) cn) : CE E Z as h cn := by
  obtain ⟨b, b1, b2, -, b4⟩ := W.bu
  have z := c b b1 b2
  rw [b4] at z
  exact z
set_option maxRecDepth 20000 in
theorem la_134 {E : En} {h : Hp} {A γ : Nat → Nat} {n nw sc ni T i k9 : Nat} {L B : Bu} (hE : (eL E).stackTraces = false) (hX : eXl E < 2 ^ 31) (W : WS h A γ n nw sc L B) (p : PB nw sc ni T L B) (hT : T ≤ 90000) (hi : i < sc) (hk9 : k9 < 900) : G E m_LW_acted 134 [(7, .int (P_fine L i nw)), (6, .int (M_why (M_tot L.1 L.2.1 (L.2.2 i) nw) (M_stamped (L.2.2 i) (L.1 9)))), (5, .ref (tw h (A 23) i)), (4, .int (nI i)), (0, .ref (A 22)), (1, .ref (A 23)), (2, .ref (eXa E)), (3, .int (nI k9))] [] (wT h (A 23) sc L) 72 984 (AcP A n nw sc T) noX := by
  have HL := W.ok
  have s8 := HL.s8
  have W9 := W.law (L' := L)
  obtain ⟨J, hG, hz, -⟩ := id p
  refine g_aload_n (pc := 134) d_LW_acted_134 rfl 4 rfl ?_
  refine g_iload (pc := 135) d_LW_acted_135 3 rfl ?_
  refine g_cV1 (pc := 137) (ci := 0) (As := [.int _]) d_LW_acted_137 rfl mv_HS_whyFail st_LW_acted_259 rfl rfl (by decide) rfl rfl (Nat.le_of_ble_eq_true rfl) W9.kx (wg_HS_whyFail W9 hG hi) ?_
  refine g_top (y := M_why (M_tot L.1 L.2.1 (L.2.2 i) nw) (M_stamped (L.2.2 i) (L.1 9))) (by rw [J.tot hi, J.stamped hi]) ?_
  refine g_iload (pc := 140) d_LW_acted_140 1 rfl ?_
  refine g_icmp_ne (pc := 142) (tgt := 156) d_LW_acted_142 (by decide) (fun c_142 => ?_) (fun c_142 => ?_)
  · exact absurd rfl c_142
  · skip
    refine g_aload_n (pc := 145) d_LW_acted_145 rfl 4 rfl ?_
    refine g_iload (pc := 146) d_LW_acted_146 3 rfl ?_
    refine g_cV1 (pc := 148) (ci := 0) (As := [.int _]) d_LW_acted_148 rfl mv_HS_fineIfVisited st_LW_acted_262 rfl rfl (by decide) rfl rfl (Nat.le_of_ble_eq_true rfl) W9.kx (wg_HS_fineIfVisited W9 hG hi) ?_
    refine g_top (y := P_fine L i nw) (show P_fine B i nw = _ from (J.fine hi).symm) ?_
    refine g_iload (pc := 151) d_LW_acted_151 0 rfl ?_
    refine g_icmp_eq (pc := 153) (tgt := 158) d_LW_acted_153 (by decide) (fun c_153 => ?_) (fun c_153 => ?_)
    · skip
      refine g_aload (pc := 158) d_LW_acted_158 2 rfl ?_
      refine g_ttI (pc := 160) (f := 12) rfl d_LW_acted_160 fl_LW_157 HL (by first | assumption | omega) ?_
      refine g_if_ne (pc := 163) (tgt := 183) d_LW_acted_163 (by decide) (fun c_163 => ?_) (fun c_163 => ?_)
      · skip
        have e12 : B.2.2 i 12 = 1 := (hG.2.2 i hi).1.resolve_left (fun z => c_163 ((J.2.2 i hi 12 (by decide)).trans z))
        refine g_aload_n (pc := 183) d_LW_acted_183 rfl 5 rfl ?_
        refine g_aload (pc := 184) d_LW_acted_184 2 rfl ?_
        refine g_cS1 (pc := 186) (As := [.ref _, .ref _]) d_LW_acted_186 rfl ms_LW_visit st_LW_acted_190 rfl rfl (Nat.le_of_ble_eq_true rfl) (cl_LW_visit HL hi) ?_
        refine g_pop (pc := 189) d_LW_acted_189 rfl ?_
        refine g_aload_n (pc := 190) d_LW_acted_190 rfl 4 rfl ?_
        refine g_iload (pc := 191) d_LW_acted_191 3 rfl ?_
        refine g_callSX (k := 61) (n := 828) (pc := 193) (As := [.ref _, .int _]) d_LW_acted_193 rfl msx_LW_visitO st_LW_acted_265 rfl rfl (Nat.le_of_ble_eq_true rfl) (cw_LW_visitO (W.law (L' := (P_ins L i nw))).kx (wm_HS_visit (W.law (L' := (P_ins L i nw))) hG hi e12) (fun v h1 r => ⟨_, r.1⟩)) (fun _ _ z => z.elim) (fun v h4 hv => ?_)
        obtain ⟨rfl, γ4, W4, f4⟩ := hv
        refine g_top (y := P_fine L i nw) (J.fine hi).symm ?_
        have HL4 := W4.ok
        refine g_h W4.eq.symm ?_
        refine g_iload (pc := 196) d_LW_acted_196 0 rfl ?_
        refine g_icmp_ne (pc := 198) (tgt := 222) d_LW_acted_198 (by decide) (fun c_198 => ?_) (fun c_198 => ?_)
        · exact absurd rfl c_198
        · skip
          refine g_aload_n (pc := 201) d_LW_acted_201 rfl 4 rfl ?_
          refine g_aload_n (pc := 202) d_LW_acted_202 rfl 5 rfl ?_
          refine g_cS1 (pc := 203) (As := [.ref _, .ref _]) d_LW_acted_203 rfl ms_LW_same st_LW_acted_196 rfl rfl (Nat.le_of_ble_eq_true rfl) (cl_LW_same HL4 (W4.law (L' := (P_ins L i nw))) (PB_ins p (by omega) hi).2.1 (PB_ins p (by omega) hi).1 (PB_ins p (by omega) hi).2.2.1) ?_
          refine g_if_eq (pc := 206) (tgt := 222) d_LW_acted_206 (by decide) (fun c_206 => ?_) (fun c_206 => ?_)
          · exact absurd c_206 (by decide)
          · skip
            refine g_aload_n (pc := 209) d_LW_acted_209 rfl 4 rfl ?_
            refine g_iload (pc := 210) d_LW_acted_210 3 rfl ?_
            refine g_cV1 (pc := 212) (ci := 0) (As := [.int _]) d_LW_acted_212 rfl mv_HS_isStamped st_LW_acted_268 rfl rfl (by decide) rfl rfl (Nat.le_of_ble_eq_true rfl) (W4.law (L' := (P_ins L i nw))).kx (wg_HS_isStamped (W4.law (L' := (P_ins L i nw))) (PB_ins p (by omega) hi).2.1 hi) ?_
            refine g_top (y := 1) (by rw [← (PB_ins p (by omega) hi).1.stamped hi, vis_stamped p (by omega)]; rfl) ?_
            refine g_if_eq (pc := 215) (tgt := 222) d_LW_acted_215 (by decide) (fun c_215 => ?_) (fun c_215 => ?_)
            · exact absurd c_215 (by decide)
            · skip
              refine g_iconst (pc := 218) (v := 1) d_LW_acted_218 (by decide) ?_
              refine g_goto (pc := 219) (tgt := 223) d_LW_acted_219 (by decide) ?_
              refine g_zret (pc := 223) d_LW_acted_223 rfl rfl ?_
              first | exact ⟨rfl, γ4, ni, _, _, W4.law (L' := (P_ins L i nw)), (PB_ins p (by omega) hi).mono (by omega)⟩ | exact ⟨rfl, γ, ni, L, B, W9, p.mono (by omega)⟩
      · skip
        have e12 : B.2.2 i 12 = 0 := (J.2.2 i hi 12 (by decide)).symm.trans c_163
        refine g_aload_n (pc := 166) d_LW_acted_166 rfl 4 rfl ?_
        refine g_iload (pc := 167) d_LW_acted_167 3 rfl ?_
        refine g_callSX (k := 61) (n := 828) (pc := 169) (As := [.ref _, .int _]) d_LW_acted_169 rfl msx_LW_visitO st_LW_acted_265 rfl rfl (Nat.le_of_ble_eq_true rfl) (cz_LW_visitO W9.kx (cE W9 (fun b b1 b2 => ce_HS_visitS hE W9.kx b1 b2 hG hi e12))) (fun _ _ z => z.elim) (fun v h4 hv => ?_)
        obtain ⟨rfl, h4e⟩ := hv
        subst h4e
        refine g_bipush (pc := 172) (v := (-100)) d_LW_acted_172 (by decide) ?_
        refine g_icmp_ne (pc := 174) (tgt := 181) d_LW_acted_174 (by decide) (fun c_174 => ?_) (fun c_174 => ?_)
        · exact absurd rfl c_174
        · skip
          refine g_iconst (pc := 177) (v := 1) d_LW_acted_177 (by decide) ?_
          refine g_goto (pc := 178) (tgt := 182) d_LW_acted_178 (by decide) ?_
          refine g_zret (pc := 182) d_LW_acted_182 rfl rfl ?_
          first | exact ⟨rfl, γ4, ni, _, _, W4.law (L' := (P_ins L i nw)), (PB_ins p (by omega) hi).mono (by omega)⟩ | exact ⟨rfl, γ, ni, L, B, W9, p.mono (by omega)⟩
    · exact absurd rfl c_153
set_option maxRecDepth 20000 in
theorem la_113 {E : En} {h : Hp} {A γ : Nat → Nat} {n nw sc ni T i k9 : Nat} {L B : Bu} (hE : (eL E).stackTraces = false) (hX : eXl E < 2 ^ 31) (W : WS h A γ n nw sc L B) (p : PB nw sc ni T L B) (hT : T ≤ 90000) (hi : i < sc) (hk9 : k9 < 900) : G E m_LW_acted 113 [(6, .int (M_why (M_tot L.1 L.2.1 (L.2.2 i) nw) (M_stamped (L.2.2 i) (L.1 9)))), (5, .ref (tw h (A 23) i)), (4, .int (nI i)), (0, .ref (A 22)), (1, .ref (A 23)), (2, .ref (eXa E)), (3, .int (nI k9))] [] (wT h (A 23) sc L) 72 984 (AcP A n nw sc T) noX := by
  have HL := W.ok
  have s8 := HL.s8
  have W9 := W.law (L' := L)
  obtain ⟨J, hG, hz, -⟩ := id p
  refine g_aload_n (pc := 113) d_LW_acted_113 rfl 4 rfl ?_
  refine g_aload (pc := 114) d_LW_acted_114 1 rfl ?_
  refine g_cS1 (pc := 116) (As := [.ref _, .ref _]) d_LW_acted_116 rfl ms_LW_fails st_LW_acted_147 rfl rfl (Nat.le_of_ble_eq_true rfl) (cl_LW_fails HL hi) ?_
  refine g_if_eq (pc := 119) (tgt := 131) d_LW_acted_119 (by decide) (fun c_119 => ?_) (fun c_119 => ?_)
  · skip
    have hf : P_fails L i nw = false := bI_0.mp c_119
    refine g_iconst (pc := 131) (v := 0) d_LW_acted_131 (by decide) ?_
    first | refine g_top (y := P_fine L i nw) (P_fine_0 (J.gd hG) hi hf).symm ?_ | skip
    refine g_istore (pc := 132) (lv' := [(7, .int (P_fine L i nw)), (6, .int (M_why (M_tot L.1 L.2.1 (L.2.2 i) nw) (M_stamped (L.2.2 i) (L.1 9)))), (5, .ref (tw h (A 23) i)), (4, .int (nI i)), (0, .ref (A 22)), (1, .ref (A 23)), (2, .ref (eXa E)), (3, .int (nI k9))]) d_LW_acted_132 (by decide) rfl ?_
    exact la_134 hE hX W p hT hi hk9
  · skip
    refine g_aload_n (pc := 122) d_LW_acted_122 rfl 4 rfl ?_
    refine g_aload (pc := 123) d_LW_acted_123 1 rfl ?_
    refine g_cS1 (pc := 125) (As := [.ref _, .ref _]) d_LW_acted_125 rfl ms_LW_fine st_LW_acted_138 rfl rfl (Nat.le_of_ble_eq_true rfl) (cl_LW_fine HL hi) ?_
    refine g_goto (pc := 128) (tgt := 132) d_LW_acted_128 (by decide) ?_
    first | refine g_top (y := P_fine L i nw) (P_fine_0 (J.gd hG) hi hf).symm ?_ | skip
    refine g_istore (pc := 132) (lv' := [(7, .int (P_fine L i nw)), (6, .int (M_why (M_tot L.1 L.2.1 (L.2.2 i) nw) (M_stamped (L.2.2 i) (L.1 9)))), (5, .ref (tw h (A 23) i)), (4, .int (nI i)), (0, .ref (A 22)), (1, .ref (A 23)), (2, .ref (eXa E)), (3, .int (nI k9))]) d_LW_acted_132 (by decide) rfl ?_
    exact la_134 hE hX W p hT hi hk9
set_option maxRecDepth 20000 in
theorem la_76 {E : En} {h : Hp} {A γ : Nat → Nat} {n nw sc ni T i k9 : Nat} {L B : Bu} (hE : (eL E).stackTraces = false) (hX : eXl E < 2 ^ 31) (W : WS h A γ n nw sc L B) (p : PB nw sc ni T L B) (hT : T ≤ 90000) (hi : i < sc) (hk9 : k9 < 900) : G E m_LW_acted 76 [(5, .ref (tw h (A 23) i)), (4, .int (nI i)), (0, .ref (A 22)), (1, .ref (A 23)), (2, .ref (eXa E)), (3, .int (nI k9))] [] (wT h (A 23) sc L) 72 984 (AcP A n nw sc T) noX := by
  have HL := W.ok
  have s8 := HL.s8
  have W9 := W.law (L' := L)
  obtain ⟨J, hG, hz, -⟩ := id p
  refine g_aload_n (pc := 76) d_LW_acted_76 rfl 3 rfl ?_
  refine g_aload (pc := 77) d_LW_acted_77 0 rfl ?_
  refine g_cS1 (pc := 79) (As := [.ref _, .ref _]) d_LW_acted_79 rfl ms_LW_total st_LW_acted_131 rfl rfl (Nat.le_of_ble_eq_true rfl) (cl_LW_total HL hi) ?_
  refine g_if_le (pc := 82) (tgt := 89) d_LW_acted_82 (by decide) (fun c_82 => ?_) (fun c_82 => ?_)
  · skip
    have hw1 : (M_tot L.1 L.2.1 (L.2.2 i) nw) = 0 := Int32.le_antisymm c_82 ((J.gd hG).tot hi)
    refine g_iconst (pc := 89) (v := 0) d_LW_acted_89 (by decide) ?_
    refine g_aload (pc := 90) d_LW_acted_90 0 rfl ?_
    refine g_ttI (pc := 92) (f := 11) rfl d_LW_acted_92 fl_LW_135 HL (by first | assumption | omega) ?_
    refine g_aload_n (pc := 95) d_LW_acted_95 rfl 3 rfl ?_
    refine g_th0 (pc := 96) d_LW_acted_96 fl_LW_30 HL ?_
    refine g_bipush (pc := 99) (v := 7) d_LW_acted_99 (by decide) ?_
    refine g_thl (pc := 101) (j := 7) d_LW_acted_101 HL (by decide) ?_
    refine g_icmp_ge (pc := 102) (tgt := 109) d_LW_acted_102 (by decide) (fun c_102 => ?_) (fun c_102 => ?_)
    · skip
      have hw2 : (M_stamped (L.2.2 i) (L.1 9)) = true := decide_eq_true c_102
      refine g_iconst (pc := 109) (v := 0) d_LW_acted_109 (by decide) ?_
      refine g_iadd (pc := 110) d_LW_acted_110 ?_
      refine g_top (y := M_why (M_tot L.1 L.2.1 (L.2.2 i) nw) (M_stamped (L.2.2 i) (L.1 9))) (by unfold M_why; rw [hw2]; (first | rw [if_pos hw1] | rw [if_neg hw1]); rfl) ?_
      refine g_istore (pc := 111) (lv' := [(6, .int (M_why (M_tot L.1 L.2.1 (L.2.2 i) nw) (M_stamped (L.2.2 i) (L.1 9)))), (5, .ref (tw h (A 23) i)), (4, .int (nI i)), (0, .ref (A 22)), (1, .ref (A 23)), (2, .ref (eXa E)), (3, .int (nI k9))]) d_LW_acted_111 (by decide) rfl ?_
      exact la_113 hE hX W p hT hi hk9
    · skip
      have hw2 : (M_stamped (L.2.2 i) (L.1 9)) = false := decide_eq_false c_102
      refine g_iconst (pc := 105) (v := 2) d_LW_acted_105 (by decide) ?_
      refine g_goto (pc := 106) (tgt := 110) d_LW_acted_106 (by decide) ?_
      refine g_iadd (pc := 110) d_LW_acted_110 ?_
      refine g_top (y := M_why (M_tot L.1 L.2.1 (L.2.2 i) nw) (M_stamped (L.2.2 i) (L.1 9))) (by unfold M_why; rw [hw2]; (first | rw [if_pos hw1] | rw [if_neg hw1]); rfl) ?_
      refine g_istore (pc := 111) (lv' := [(6, .int (M_why (M_tot L.1 L.2.1 (L.2.2 i) nw) (M_stamped (L.2.2 i) (L.1 9)))), (5, .ref (tw h (A 23) i)), (4, .int (nI i)), (0, .ref (A 22)), (1, .ref (A 23)), (2, .ref (eXa E)), (3, .int (nI k9))]) d_LW_acted_111 (by decide) rfl ?_
      exact la_113 hE hX W p hT hi hk9
  · skip
    have hw1 : ¬ (M_tot L.1 L.2.1 (L.2.2 i) nw) = 0 := fun z => c_82 (by rw [z]; decide)
    refine g_iconst (pc := 85) (v := 1) d_LW_acted_85 (by decide) ?_
    refine g_goto (pc := 86) (tgt := 90) d_LW_acted_86 (by decide) ?_
    refine g_aload (pc := 90) d_LW_acted_90 0 rfl ?_
    refine g_ttI (pc := 92) (f := 11) rfl d_LW_acted_92 fl_LW_135 HL (by first | assumption | omega) ?_
    refine g_aload_n (pc := 95) d_LW_acted_95 rfl 3 rfl ?_
    refine g_th0 (pc := 96) d_LW_acted_96 fl_LW_30 HL ?_
    refine g_bipush (pc := 99) (v := 7) d_LW_acted_99 (by decide) ?_
    refine g_thl (pc := 101) (j := 7) d_LW_acted_101 HL (by decide) ?_
    refine g_icmp_ge (pc := 102) (tgt := 109) d_LW_acted_102 (by decide) (fun c_102 => ?_) (fun c_102 => ?_)
    · skip
      have hw2 : (M_stamped (L.2.2 i) (L.1 9)) = true := decide_eq_true c_102
      refine g_iconst (pc := 109) (v := 0) d_LW_acted_109 (by decide) ?_
      refine g_iadd (pc := 110) d_LW_acted_110 ?_
      refine g_top (y := M_why (M_tot L.1 L.2.1 (L.2.2 i) nw) (M_stamped (L.2.2 i) (L.1 9))) (by unfold M_why; rw [hw2]; (first | rw [if_pos hw1] | rw [if_neg hw1]); rfl) ?_
      refine g_istore (pc := 111) (lv' := [(6, .int (M_why (M_tot L.1 L.2.1 (L.2.2 i) nw) (M_stamped (L.2.2 i) (L.1 9)))), (5, .ref (tw h (A 23) i)), (4, .int (nI i)), (0, .ref (A 22)), (1, .ref (A 23)), (2, .ref (eXa E)), (3, .int (nI k9))]) d_LW_acted_111 (by decide) rfl ?_
      exact la_113 hE hX W p hT hi hk9
    · skip
      have hw2 : (M_stamped (L.2.2 i) (L.1 9)) = false := decide_eq_false c_102
      refine g_iconst (pc := 105) (v := 2) d_LW_acted_105 (by decide) ?_
      refine g_goto (pc := 106) (tgt := 110) d_LW_acted_106 (by decide) ?_
      refine g_iadd (pc := 110) d_LW_acted_110 ?_
      refine g_top (y := M_why (M_tot L.1 L.2.1 (L.2.2 i) nw) (M_stamped (L.2.2 i) (L.1 9))) (by unfold M_why; rw [hw2]; (first | rw [if_pos hw1] | rw [if_neg hw1]); rfl) ?_
      refine g_istore (pc := 111) (lv' := [(6, .int (M_why (M_tot L.1 L.2.1 (L.2.2 i) nw) (M_stamped (L.2.2 i) (L.1 9)))), (5, .ref (tw h (A 23) i)), (4, .int (nI i)), (0, .ref (A 22)), (1, .ref (A 23)), (2, .ref (eXa E)), (3, .int (nI k9))]) d_LW_acted_111 (by decide) rfl ?_
      exact la_113 hE hX W p hT hi hk9
set_option maxRecDepth 20000 in
theorem la_224 {E : En} {h : Hp} {A γ : Nat → Nat} {n nw sc ni T i k9 : Nat} {L B : Bu} (hE : (eL E).stackTraces = false) (hX : eXl E < 2 ^ 31) (W : WS h A γ n nw sc L B) (p : PB nw sc ni T L B) (hT : T ≤ 90000) (hi : i < sc) (hk9 : k9 < 900) : G E m_LW_acted 224 [(5, .ref (tw h (A 23) i)), (4, .int (nI i)), (0, .ref (A 22)), (1, .ref (A 23)), (2, .ref (eXa E)), (3, .int (nI k9))] [] (wT h (A 23) sc L) 72 984 (AcP A n nw sc T) noX := by
  have HL := W.ok
  have s8 := HL.s8
  have W9 := W.law (L' := L)
  obtain ⟨J, hG, hz, -⟩ := id p
  refine g_aload (pc := 224) d_LW_acted_224 0 rfl ?_
  refine g_ttI (pc := 226) (f := 12) rfl d_LW_acted_226 fl_LW_157 HL (by first | assumption | omega) ?_
  refine g_if_eq (pc := 229) (tgt := 242) d_LW_acted_229 (by decide) (fun c_229 => ?_) (fun c_229 => ?_)
  · skip
    have hpay : M_canPay (B.2.2 i) = false := by
      unfold M_canPay
      rw [← J.2.2 i hi 12 (by decide), decide_eq_false (fun z => z c_229)]
      rfl
    refine g_aload_n (pc := 242) d_LW_acted_242 rfl 2 rfl ?_
    refine g_iload (pc := 243) d_LW_acted_243 1 rfl ?_
    refine g_callSX (k := 61) (n := 828) (pc := 245) (As := [.ref _, .int _]) d_LW_acted_245 rfl msx_LW_repairO st_LW_acted_271 rfl rfl (Nat.le_of_ble_eq_true rfl) (cz_LW_repairO W9.kx (cE W9 (fun b b1 b2 => ce_HS_repairS hE W9.kx b1 b2 hG hi hpay))) (fun _ _ z => z.elim) (fun v h4 hv => ?_)
    obtain ⟨rfl, h4e⟩ := hv
    subst h4e
    refine g_ldci (pc := 248) d_LW_acted_248 co_LW_252 ?_
    refine g_icmp_ne (pc := 250) (tgt := 265) d_LW_acted_250 (by decide) (fun c_250 => ?_) (fun c_250 => ?_)
    · exact absurd rfl c_250
    · skip
      refine g_aload_n (pc := 253) d_LW_acted_253 rfl 2 rfl ?_
      refine g_aload_n (pc := 254) d_LW_acted_254 rfl 3 rfl ?_
      refine g_cS1 (pc := 255) (As := [.ref _, .ref _]) d_LW_acted_255 rfl ms_LW_same st_LW_acted_196 rfl rfl (Nat.le_of_ble_eq_true rfl) (cl_LW_same HL W9 hG J hz) ?_
      refine g_if_eq (pc := 258) (tgt := 265) d_LW_acted_258 (by decide) (fun c_258 => ?_) (fun c_258 => ?_)
      · exact absurd c_258 (by decide)
      · skip
        refine g_iconst (pc := 261) (v := 1) d_LW_acted_261 (by decide) ?_
        refine g_goto (pc := 262) (tgt := 266) d_LW_acted_262 (by decide) ?_
        refine g_zret (pc := 266) d_LW_acted_266 rfl rfl ?_
        first | exact ⟨rfl, γ4, ni, _, _, W4.law (L' := (P_repair L i)), (PB_repair p hi).mono (by omega)⟩ | exact ⟨rfl, γ, ni, L, B, W9, p.mono (by omega)⟩
  · skip
    refine g_aload (pc := 232) d_LW_acted_232 0 rfl ?_
    refine g_ttI (pc := 234) (f := 0) rfl d_LW_acted_234 fl_LW_71 HL (by first | assumption | omega) ?_
    refine g_bipush (pc := 237) (v := 10) d_LW_acted_237 (by decide) ?_
    refine g_icmp_ge (pc := 239) (tgt := 267) d_LW_acted_239 (by decide) (fun c_239 => ?_) (fun c_239 => ?_)
    · skip
      have hpay : M_canPay (B.2.2 i) = true := by
        unfold M_canPay
        rw [← J.2.2 i hi 12 (by decide), ← J.2.2 i hi 0 (by decide), decide_eq_true (show L.2.2 i 12 ≠ 0 from c_229), decide_eq_true (show 10 ≤ L.2.2 i 0 from c_239)]
        rfl
      refine g_aload (pc := 267) d_LW_acted_267 0 rfl ?_
      refine g_dup (pc := 269) d_LW_acted_269 rfl ?_
      refine g_ttI (pc := 270) (f := 0) rfl d_LW_acted_270 fl_LW_71 HL (by first | assumption | omega) ?_
      refine g_bipush (pc := 273) (v := 10) d_LW_acted_273 (by decide) ?_
      refine g_isub (pc := 275) d_LW_acted_275 ?_
      refine g_ttp (pc := 276) (f := 0) rfl d_LW_acted_276 fl_LW_71 (fun q hq => by cases hq; exact rfl) rfl rfl HL (by first | assumption | omega) ?_
      refine g_aload_n (pc := 279) d_LW_acted_279 rfl 3 rfl ?_
      refine g_th0 (pc := 280) d_LW_acted_280 fl_LW_30 HL ?_
      refine g_bipush (pc := 283) (v := 8) d_LW_acted_283 (by decide) ?_
      refine g_dup2 (pc := 285) d_LW_acted_285 rfl rfl ?_
      refine g_thl (pc := 286) (j := 8) d_LW_acted_286 HL (by decide) ?_
      refine g_bipush (pc := 287) (v := 10) d_LW_acted_287 (by decide) ?_
      refine g_iadd (pc := 289) d_LW_acted_289 ?_
      refine g_ths (pc := 290) (j := 8) d_LW_acted_290 HL (by decide) ?_
      refine g_aload (pc := 291) d_LW_acted_291 0 rfl ?_
      refine g_iconst (pc := 293) (v := 0) d_LW_acted_293 (by decide) ?_
      refine g_ttp (pc := 294) (f := 1) rfl d_LW_acted_294 fl_LW_75 (fun q hq => by cases hq; exact rfl) rfl rfl HL (by first | assumption | omega) ?_
      refine g_aload (pc := 297) d_LW_acted_297 0 rfl ?_
      refine g_iconst (pc := 299) (v := 0) d_LW_acted_299 (by decide) ?_
      refine g_ttp (pc := 300) (f := 2) rfl d_LW_acted_300 fl_LW_78 (fun q hq => by cases hq; exact rfl) rfl rfl HL (by first | assumption | omega) ?_
      refine g_h (h' := wT h (A 23) sc (P_repair L i)) (congrArg (wT h (A 23) sc) ?_) ?_
      · refine Prod.ext rfl (Prod.ext rfl (funext fun q => funext fun f => ?_))
        simp only [P_repair, M_straight, sS, sC, u1_at, hp_8]
        by_cases h1 : q = i
        · subst h1
          by_cases a0 : f = 0 <;> by_cases a1 : f = 1 <;> by_cases a2 : f = 2 <;> first | omega | simp [u1_at, a0, a1, a2]
        · simp [h1]
      refine g_aload_n (pc := 303) d_LW_acted_303 rfl 2 rfl ?_
      refine g_iload (pc := 304) d_LW_acted_304 1 rfl ?_
      refine g_callSX (k := 61) (n := 828) (pc := 306) (As := [.ref _, .int _]) d_LW_acted_306 rfl msx_LW_repairO st_LW_acted_271 rfl rfl (Nat.le_of_ble_eq_true rfl) (cw_LW_repairO (W.law (L' := (P_repair L i))).kx (wm_HS_repair (W.law (L' := (P_repair L i))) hG hi hpay) (fun v h1 r => ⟨_, r.1⟩)) (fun _ _ z => z.elim) (fun v h4 hv => ?_)
      obtain ⟨rfl, γ4, W4, f4⟩ := hv
      refine g_top (y := (P_repair L i).2.2 i 0) (by rw [← J.2.2 i hi 0 (by decide)]; exact (show u1 L.2.2 i (u1 (M_straight (L.2.2 i)) 0 (L.2.2 i 0 - 10)) i 0 = _ by rw [u1_same, u1_same]).symm) ?_
      have HL := W4.ok
      refine g_h W4.eq.symm ?_
      rw [show tw h (A 23) i = tw h4 (A 23) i from (W.2.2.2.2.2.2.2.2 i hi).symm.trans (W4.2.2.2.2.2.2.2.2 i hi)]
      refine g_aload (pc := 309) d_LW_acted_309 0 rfl ?_
      refine g_ttI (pc := 311) (f := 0) rfl d_LW_acted_311 fl_LW_71 HL (by first | assumption | omega) ?_
      refine g_icmp_ne (pc := 314) (tgt := 330) d_LW_acted_314 (by decide) (fun c_314 => ?_) (fun c_314 => ?_)
      · exact absurd rfl c_314
      · skip
        refine g_aload_n (pc := 317) d_LW_acted_317 rfl 2 rfl ?_
        refine g_iload (pc := 318) d_LW_acted_318 1 rfl ?_
        refine g_cV1 (pc := 320) (ci := 0) (As := [.int _]) d_LW_acted_320 rfl mv_HS_isTrue st_LW_acted_273 rfl rfl (by decide) rfl rfl (Nat.le_of_ble_eq_true rfl) (W4.law (L' := (P_repair L i))).kx (wg_HS_isTrue (W4.law (L' := (P_repair L i))) (PB_repair p hi).2.1 hi) ?_
        have rep : ∀ f, (nB (P_repair B i)).2.2 i f = u1 (M_straight (B.2.2 i)) 0 (B.2.2 i 0 - 10) f := fun f => by
          rw [nB_s (by omega)]
          show u1 B.2.2 i _ i f = _
          rw [u1_same]
        refine g_top (y := 1) (by rw [tot_str (PB_repair p hi).2.1.2.1 (by rw [rep]; rfl) (by rw [rep]; rfl) nw (Nat.le_refl _)]; rfl) ?_
        refine g_if_eq (pc := 323) (tgt := 330) d_LW_acted_323 (by decide) (fun c_323 => ?_) (fun c_323 => ?_)
        · exact absurd c_323 (by decide)
        · skip
          refine g_iconst (pc := 326) (v := 1) d_LW_acted_326 (by decide) ?_
          refine g_goto (pc := 327) (tgt := 331) d_LW_acted_327 (by decide) ?_
          refine g_zret (pc := 331) d_LW_acted_331 rfl rfl ?_
          first | exact ⟨rfl, γ4, ni, _, _, W4.law (L' := (P_repair L i)), (PB_repair p hi).mono (by omega)⟩ | exact ⟨rfl, γ, ni, L, B, W9, p.mono (by omega)⟩
    · skip
      have hpay : M_canPay (B.2.2 i) = false := by
        unfold M_canPay
        rw [← J.2.2 i hi 0 (by decide), decide_eq_false (show ¬ 10 ≤ L.2.2 i 0 from c_239)]
        exact Bool.and_false _
      refine g_aload_n (pc := 242) d_LW_acted_242 rfl 2 rfl ?_
      refine g_iload (pc := 243) d_LW_acted_243 1 rfl ?_
      refine g_callSX (k := 61) (n := 828) (pc := 245) (As := [.ref _, .int _]) d_LW_acted_245 rfl msx_LW_repairO st_LW_acted_271 rfl rfl (Nat.le_of_ble_eq_true rfl) (cz_LW_repairO W9.kx (cE W9 (fun b b1 b2 => ce_HS_repairS hE W9.kx b1 b2 hG hi hpay))) (fun _ _ z => z.elim) (fun v h4 hv => ?_)
      obtain ⟨rfl, h4e⟩ := hv
      subst h4e
      refine g_ldci (pc := 248) d_LW_acted_248 co_LW_252 ?_
      refine g_icmp_ne (pc := 250) (tgt := 265) d_LW_acted_250 (by decide) (fun c_250 => ?_) (fun c_250 => ?_)
      · exact absurd rfl c_250
      · skip
        refine g_aload_n (pc := 253) d_LW_acted_253 rfl 2 rfl ?_
        refine g_aload_n (pc := 254) d_LW_acted_254 rfl 3 rfl ?_
        refine g_cS1 (pc := 255) (As := [.ref _, .ref _]) d_LW_acted_255 rfl ms_LW_same st_LW_acted_196 rfl rfl (Nat.le_of_ble_eq_true rfl) (cl_LW_same HL W9 hG J hz) ?_
        refine g_if_eq (pc := 258) (tgt := 265) d_LW_acted_258 (by decide) (fun c_258 => ?_) (fun c_258 => ?_)
        · exact absurd c_258 (by decide)
        · skip
          refine g_iconst (pc := 261) (v := 1) d_LW_acted_261 (by decide) ?_
          refine g_goto (pc := 262) (tgt := 266) d_LW_acted_262 (by decide) ?_
          refine g_zret (pc := 266) d_LW_acted_266 rfl rfl ?_
          first | exact ⟨rfl, γ4, ni, _, _, W4.law (L' := (P_repair L i)), (PB_repair p hi).mono (by omega)⟩ | exact ⟨rfl, γ, ni, L, B, W9, p.mono (by omega)⟩
set_option maxRecDepth 20000 in
theorem la_332 {E : En} {h : Hp} {A γ : Nat → Nat} {n nw sc ni T i k9 : Nat} {L B : Bu} (hE : (eL E).stackTraces = false) (hX : eXl E < 2 ^ 31) (W : WS h A γ n nw sc L B) (p : PB nw sc ni T L B) (hT : T ≤ 90000) (hi : i < sc) (hk9 : k9 < 900) : G E m_LW_acted 332 [(5, .ref (tw h (A 23) i)), (4, .int (nI i)), (0, .ref (A 22)), (1, .ref (A 23)), (2, .ref (eXa E)), (3, .int (nI k9))] [] (wT h (A 23) sc L) 72 984 (AcP A n nw sc T) noX := by
  have HL := W.ok
  have s8 := HL.s8
  have W9 := W.law (L' := L)
  obtain ⟨J, hG, hz, -⟩ := id p
  obtain ⟨m1, hm1, hp1⟩ := cl_LW_pick (E := E) (k := k9 + 2) (n := 101) hX (by omega) (by decide) (by decide)
  refine g_aload (pc := 332) d_LW_acted_332 0 rfl ?_
  refine g_ttI (pc := 334) (f := 6) rfl d_LW_acted_334 fl_LW_90 HL (by first | assumption | omega) ?_
  refine g_istore (pc := 337) (lv' := [(8, .int (L.2.2 i 6)), (5, .ref (tw h (A 23) i)), (4, .int (nI i)), (0, .ref (A 22)), (1, .ref (A 23)), (2, .ref (eXa E)), (3, .int (nI k9))]) d_LW_acted_337 (by decide) rfl ?_
  refine g_aload (pc := 339) d_LW_acted_339 1 rfl ?_
  refine g_aload_n (pc := 341) d_LW_acted_341 rfl 5 rfl ?_
  refine g_iload_n (pc := 342) d_LW_acted_342 rfl 6 rfl ?_
  refine g_iconst (pc := 343) (v := 2) d_LW_acted_343 (by decide) ?_
  refine g_iadd (pc := 344) d_LW_acted_344 ?_
  refine g_top (y := nI (k9 + 2)) (nI_add k9 2) ?_
  refine g_bipush (pc := 345) (v := 101) d_LW_acted_345 (by decide) ?_
  refine g_top (y := nI 101) rfl ?_
  refine g_cS1 (pc := 347) (As := [.ref _, .int _, .int _]) d_LW_acted_347 rfl ms_LW_pick st_LW_acted_34 rfl rfl (Nat.le_of_ble_eq_true rfl) (hp1 _) ?_
  refine g_ttp (pc := 350) (f := 6) rfl d_LW_acted_350 fl_LW_90 (fun q hq => by cases hq; exact rfl) rfl rfl HL (by first | assumption | omega) ?_
  refine g_aload_n (pc := 353) d_LW_acted_353 rfl 3 rfl ?_
  refine g_iload (pc := 354) d_LW_acted_354 2 rfl ?_
  refine g_aload (pc := 356) d_LW_acted_356 1 rfl ?_
  refine g_ttI (pc := 358) (f := 6) rfl d_LW_acted_358 fl_LW_90 HL (by first | assumption | omega) ?_
  refine g_top (y := nI m1) (by rw [sS_3, u1_same]) ?_
  refine g_callV (k := 61) (n := 828) (pc := 361) (kz := 11) (nz := 156) (ci := 0) (As := [.int _, .int _]) d_LW_acted_361 rfl mv_HS_setThumb st_LW_acted_276 rfl rfl (by decide) (W.law (L' := (sS L i (u1 (L.2.2 i) 6 (nI m1))))).kx rfl rfl (Nat.le_of_ble_eq_true rfl) (wm_HS_setThumb (W.law (L' := (sS L i (u1 (L.2.2 i) 6 (nI m1))))) hG hi (by rw [show (0 : Int32) = nI 0 from rfl]; exact (nI_leI9 (by decide) (by omega)).mpr (by omega)) (show nI m1 ≤ nI 100 from (nI_leI9 (by omega) (by decide)).mpr (by omega))) (fun _ _ z => z.elim) (fun v h4 hv => ?_)
  obtain ⟨rfl, γ4, W4, f4⟩ := hv
  refine g_top (y := L.2.2 i 6) (J.2.2 i hi 6 (by decide)).symm ?_
  have HL4 := W4.ok
  refine g_h W4.eq.symm ?_
  refine g_iload (pc := 364) d_LW_acted_364 0 rfl ?_
  refine g_icmp_ne (pc := 366) (tgt := 373) d_LW_acted_366 (by decide) (fun c_366 => ?_) (fun c_366 => ?_)
  · exact absurd rfl c_366
  · skip
    refine g_iconst (pc := 369) (v := 1) d_LW_acted_369 (by decide) ?_
    refine g_goto (pc := 370) (tgt := 374) d_LW_acted_370 (by decide) ?_
    refine g_zret (pc := 374) d_LW_acted_374 rfl rfl ?_
    exact ⟨rfl, γ4, ni, _, _, W4.law (L' := (sS L i (u1 (L.2.2 i) 6 (nI m1)))), (PB_thumb p hi).mono (by omega)⟩
set_option maxRecDepth 20000 in
theorem la_375 {E : En} {h : Hp} {A γ : Nat → Nat} {n nw sc ni T i k9 : Nat} {L B : Bu} (hE : (eL E).stackTraces = false) (hX : eXl E < 2 ^ 31) (W : WS h A γ n nw sc L B) (p : PB nw sc ni T L B) (hT : T ≤ 90000) (hi : i < sc) (hk9 : k9 < 900) : G E m_LW_acted 375 [(5, .ref (tw h (A 23) i)), (4, .int (nI i)), (0, .ref (A 22)), (1, .ref (A 23)), (2, .ref (eXa E)), (3, .int (nI k9))] [] (wT h (A 23) sc L) 72 984 (AcP A n nw sc T) noX := by
  have HL := W.ok
  have s8 := HL.s8
  have W9 := W.law (L' := L)
  obtain ⟨J, hG, hz, -⟩ := id p
  refine g_aload (pc := 375) d_LW_acted_375 0 rfl ?_
  refine g_ttI (pc := 377) (f := 12) rfl d_LW_acted_377 fl_LW_157 HL (by first | assumption | omega) ?_
  refine g_if_eq (pc := 380) (tgt := 394) d_LW_acted_380 (by decide) (fun c_380 => ?_) (fun c_380 => ?_)
  · skip
    have e12 : B.2.2 i 12 = 0 := (J.2.2 i hi 12 (by decide)).symm.trans c_380
    refine g_aload_n (pc := 394) d_LW_acted_394 rfl 2 rfl ?_
    refine g_iload (pc := 395) d_LW_acted_395 1 rfl ?_
    refine g_callSX (k := 61) (n := 828) (pc := 397) (As := [.ref _, .int _]) d_LW_acted_397 rfl msx_LW_complainO st_LW_acted_279 rfl rfl (Nat.le_of_ble_eq_true rfl) (cz_LW_complainO W9.kx (cE W9 (fun b b1 b2 => ce_HS_complainS hE W9.kx b1 b2 hG hi e12))) (fun _ _ z => z.elim) (fun v h4 hv => ?_)
    obtain ⟨rfl, h4e⟩ := hv
    subst h4e
    refine g_aload (pc := 400) d_LW_acted_400 0 rfl ?_
    refine g_ttI (pc := 402) (f := 12) rfl d_LW_acted_402 fl_LW_157 HL (by first | assumption | omega) ?_
    refine g_if_eq (pc := 405) (tgt := 416) d_LW_acted_405 (by decide) (fun c_405 => ?_) (fun c_405 => ?_)
    · skip
      refine g_bipush (pc := 416) (v := (-100)) d_LW_acted_416 (by decide) ?_
      refine g_icmp_ne (pc := 418) (tgt := 425) d_LW_acted_418 (by decide) (fun c_418 => ?_) (fun c_418 => ?_)
      · exact absurd rfl c_418
      · skip
        refine g_iconst (pc := 421) (v := 1) d_LW_acted_421 (by decide) ?_
        refine g_goto (pc := 422) (tgt := 426) d_LW_acted_422 (by decide) ?_
        refine g_zret (pc := 426) d_LW_acted_426 rfl rfl ?_
        first | exact ⟨rfl, γ4, ni, _, _, W4.law (L' := (sS L i (u1 (L.2.2 i) 8 (L.2.2 i 8 + 1)))), (PB_complain p (by omega) hi).mono (by omega)⟩ | exact ⟨rfl, γ, ni, L, B, W9, p.mono (by omega)⟩
    · exact absurd c_380 c_405
  · skip
    have e12 : B.2.2 i 12 = 1 := (hG.2.2 i hi).1.resolve_left (fun z => c_380 ((J.2.2 i hi 12 (by decide)).trans z))
    refine g_aload (pc := 383) d_LW_acted_383 0 rfl ?_
    refine g_dup (pc := 385) d_LW_acted_385 rfl ?_
    refine g_ttI (pc := 386) (f := 8) rfl d_LW_acted_386 fl_LW_144 HL (by first | assumption | omega) ?_
    refine g_iconst (pc := 389) (v := 1) d_LW_acted_389 (by decide) ?_
    refine g_iadd (pc := 390) d_LW_acted_390 ?_
    refine g_ttp (pc := 391) (f := 8) rfl d_LW_acted_391 fl_LW_144 (fun q hq => by cases hq; exact rfl) rfl rfl HL (by first | assumption | omega) ?_
    refine g_aload_n (pc := 394) d_LW_acted_394 rfl 2 rfl ?_
    refine g_iload (pc := 395) d_LW_acted_395 1 rfl ?_
    refine g_callSX (k := 61) (n := 828) (pc := 397) (As := [.ref _, .int _]) d_LW_acted_397 rfl msx_LW_complainO st_LW_acted_279 rfl rfl (Nat.le_of_ble_eq_true rfl) (cw_LW_complainO (W.law (L' := (sS L i (u1 (L.2.2 i) 8 (L.2.2 i 8 + 1))))).kx (wm_HS_complain (W.law (L' := (sS L i (u1 (L.2.2 i) 8 (L.2.2 i 8 + 1))))) hG hi e12) (fun v h1 r => ⟨_, r.1⟩)) (fun _ _ z => z.elim) (fun v h4 hv => ?_)
    obtain ⟨rfl, γ4, W4, f4⟩ := hv
    refine g_top (y := (sS L i (u1 (L.2.2 i) 8 (L.2.2 i 8 + 1))).2.2 i 8) (by rw [← J.2.2 i hi 8 (by decide), sS_3, u1_same]) ?_
    have HL := W4.ok
    refine g_h W4.eq.symm ?_
    rw [show tw h (A 23) i = tw h4 (A 23) i from (W.2.2.2.2.2.2.2.2 i hi).symm.trans (W4.2.2.2.2.2.2.2.2 i hi)]
    refine g_aload (pc := 400) d_LW_acted_400 0 rfl ?_
    refine g_ttI (pc := 402) (f := 12) rfl d_LW_acted_402 fl_LW_157 HL (by first | assumption | omega) ?_
    refine g_if_eq (pc := 405) (tgt := 416) d_LW_acted_405 (by decide) (fun c_405 => ?_) (fun c_405 => ?_)
    · exact absurd c_405 (by rw [sS_3]; exact c_380)
    · skip
      refine g_aload (pc := 408) d_LW_acted_408 0 rfl ?_
      refine g_ttI (pc := 410) (f := 8) rfl d_LW_acted_410 fl_LW_144 HL (by first | assumption | omega) ?_
      refine g_goto (pc := 413) (tgt := 418) d_LW_acted_413 (by decide) ?_
      refine g_icmp_ne (pc := 418) (tgt := 425) d_LW_acted_418 (by decide) (fun c_418 => ?_) (fun c_418 => ?_)
      · exact absurd rfl c_418
      · skip
        refine g_iconst (pc := 421) (v := 1) d_LW_acted_421 (by decide) ?_
        refine g_goto (pc := 422) (tgt := 426) d_LW_acted_422 (by decide) ?_
        refine g_zret (pc := 426) d_LW_acted_426 rfl rfl ?_
        first | exact ⟨rfl, γ4, ni, _, _, W4.law (L' := (sS L i (u1 (L.2.2 i) 8 (L.2.2 i 8 + 1)))), (PB_complain p (by omega) hi).mono (by omega)⟩ | exact ⟨rfl, γ, ni, L, B, W9, p.mono (by omega)⟩
