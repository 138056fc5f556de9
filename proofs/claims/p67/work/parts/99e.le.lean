/-! THE LAW: all of it -/
theorem getD_inj {l : List Nat} (nd : l.Nodup) {i j : Nat} (hi : i < l.length) (hj : j < l.length) (e : l.getD i 0 = l.getD j 0) : i = j := by
  rw [List.getD_eq_getElem?_getD, List.getD_eq_getElem?_getD, List.getElem?_eq_getElem hi, List.getElem?_eq_getElem hj] at e
  have k := List.pairwise_iff_getElem.mp nd
  have e : l[i] = l[j] := e
  rcases Nat.lt_trichotomy i j with q | q | q
  · exact absurd e (k i j hi hj q)
  · exact q
  · exact absurd e.symm (k j i hj hi q)
theorem getD_mem {l : List Nat} {i : Nat} (hi : i < l.length) : l.getD i 0 ∈ l := by
  rw [List.getD_eq_getElem?_getD, List.getElem?_eq_getElem hi]
  exact List.getElem_mem hi
set_option maxRecDepth 100000 in
theorem Gd_Y0 : Gd Y_0.2.2.2 3 3 1 0 := by
  refine ⟨⟨by decide +kernel, by decide, by decide +kernel, by decide, by decide, by decide +kernel, by decide, ⟨7, by decide, by decide +kernel⟩, by decide +kernel⟩, ⟨by decide +kernel, by decide +kernel, by decide +kernel⟩, ?_⟩
  unfold Sg
  decide +kernel
theorem CS_0 {H : Hp} {so ob sn hy pp pa ip bt sc vb sb nb rw' x b sp : Nat} {γ : Nat → Nat} (sh : ShC H (fun i => if i < 9 then (fun _ => 0) i else [so, ob, sn, hy, pp, pa, ip, bt, sc, vb, sb, nb, rw', x].getD (i - 9) 0)) (x2 : hR H x 2 = some b) (x3 : hR H x 3 = some sp) (pp0 : ∀ j, hR H pp j = none) (sn0 : ∀ j, hR H sn j = none) (cw : Cw H γ ([so, ob, sn, hy, pp, pa, ip, bt, sc, vb, sb, nb, rw', x] ++ []) [b, sp]) : CS H (fun i => if i < 9 then (fun _ => 0) i else [so, ob, sn, hy, pp, pa, ip, bt, sc, vb, sb, nb, rw', x].getD (i - 9) 0) γ 23 := by
  have hA : ∀ i, Ix 23 i → (fun i : Nat => if i < 9 then (fun _ => 0) i else [so, ob, sn, hy, pp, pa, ip, bt, sc, vb, sb, nb, rw', x].getD (i - 9) 0) i = ([so, ob, sn, hy, pp, pa, ip, bt, sc, vb, sb, nb, rw', x] ++ []).getD (i - 9) 0 := fun i hi => if_neg (by have := hi.1; omega)
  have ba : ∀ t, t < 12 → bA H (fun i => if i < 9 then (fun _ => 0) i else [so, ob, sn, hy, pp, pa, ip, bt, sc, vb, sb, nb, rw', x].getD (i - 9) 0) t = if t = 0 then some b else if t ≤ 10 then none else some sp := by
    intro t ht
    show (if t = 0 then hR H x 2 else if t ≤ 8 then hR H pp (t - 1) else if t ≤ 10 then hR H sn (t - 9) else hR H x 3) = _
    rw [x2, x3, pp0, sn0]
    by_cases a : t = 0
    · rw [if_pos a, if_pos a]
    · rw [if_neg a, if_neg a]
      by_cases a2 : t ≤ 8
      · rw [if_pos a2, if_pos (by omega)]
      · rw [if_neg a2]
  have nbs : b ≠ sp := by
    have := cw.2.2.1
    rw [List.nodup_cons] at this
    exact fun z => this.1 (by rw [z]; exact List.mem_cons_self)
  have len : ([so, ob, sn, hy, pp, pa, ip, bt, sc, vb, sb, nb, rw', x] ++ []).length = 14 := rfl
  refine ⟨Nat.le_refl _, sh, ⟨fun i j hi hj q => ?_, fun i hi => ?_⟩, ⟨fun t b' ht q => ?_, fun t t' b' ht ht' q q' => ?_⟩, ⟨sp, ?_⟩, ⟨b, ?_⟩⟩
  · rw [hA i hi, hA j hj] at q
    have z := getD_inj cw.1 (i := i - 9) (j := j - 9) (by rw [len]; have := hi.2; have := hi.1; omega) (by rw [len]; have := hj.2; have := hj.1; omega) q
    have := hi.1
    have := hj.1
    omega
  · rw [hA i hi]
    exact cw.2.1 _ (getD_mem (by rw [len]; have := hi.2; have := hi.1; omega))
  · rw [ba t ht] at q
    split at q
    · cases q; exact cw.2.2.2 b List.mem_cons_self
    · split at q
      · cases q
      · cases q; exact cw.2.2.2 sp (List.mem_cons_of_mem _ List.mem_cons_self)
  · rw [ba t ht] at q
    rw [ba t' ht'] at q'
    by_cases a : t = 0
    · rw [if_pos a] at q
      by_cases a' : t' = 0
      · omega
      · rw [if_neg a'] at q'
        by_cases a2 : t' ≤ 10
        · rw [if_pos a2] at q'; cases q'
        · rw [if_neg a2] at q'; cases q; cases q'; exact absurd rfl nbs
    · rw [if_neg a] at q
      by_cases a2 : t ≤ 10
      · rw [if_pos a2] at q; cases q
      · rw [if_neg a2] at q
        by_cases a' : t' = 0
        · rw [if_pos a'] at q'; cases q; cases q'; exact absurd rfl nbs
        · rw [if_neg a'] at q'
          by_cases a3 : t' ≤ 10
          · rw [if_pos a3] at q'; cases q'
          · omega
  · rw [ba 11 (by decide)]; rfl
  · rw [ba 0 (by decide)]; rfl
theorem Cw_nil {h : Hp} {γ : Nat → Nat} : Cw h γ [] [] := ⟨List.nodup_nil, fun _ z => absurd z List.not_mem_nil, List.nodup_nil, fun _ z => absurd z List.not_mem_nil⟩
set_option maxRecDepth 20000 in
theorem lp_law2 {E : En} {A : Nat → Nat} {n nw sc : Nat} {PP : Option Value → Hp → Prop} {X : String → Hp → Prop} (hE : (eL E).stackTraces = false) (hX : eXl E < 2 ^ 31) (hp : ∀ h, PP (some (.int 1)) h) {h : Hp} {γ : Nat → Nat} {ni T : Nat} {L B : Bu} (W : WS h A γ n nw sc L B) (p : PB nw sc ni T L B) (hT : T ≤ 99000) : G E m_LAW 70 [(1, .ref (A 22)), (2, .ref (A 23)), (0, .ref (eXa E))] [] h 300 4100 PP X := by
  have s8 := W.ok.s8
  obtain ⟨m, hm, hm9⟩ := cl_LW_pick (E := E) (k := 190) (n := sc) hX (by decide) s8.1 (by omega)
  refine g_aload_n (pc := 70) d_LAW_70 rfl 0 rfl ?_
  refine g_aload_n (pc := 71) d_LAW_71 rfl 1 rfl ?_
  refine g_aload_n (pc := 72) d_LAW_72 rfl 2 rfl ?_
  refine g_sipush (pc := 73) (v := 190) d_LAW_73 (by decide) ?_
  refine g_h W.eq.symm ?_
  have HL := W.ok
  refine g_aload_n (pc := 76) d_LAW_76 rfl 1 rfl ?_
  refine g_th2 (pc := 77) d_LAW_77 fl_LW_45 HL ?_
  refine g_tsn (pc := 80) d_LAW_80 HL ?_
  refine g_top2 (y := nI 190) rfl ?_
  refine g_cS1 (pc := 81) (As := [.ref _, .int _, .int _]) d_LAW_81 rfl ms_LW_pick st_LAW_34 rfl rfl (Nat.le_of_ble_eq_true rfl) (hm9 _) ?_
  refine g_h W.eq ?_
  refine g_callS (k := 0) (n := 0) (kz := 300) (nz := 4100) (pc := 84) (As := [.ref _, .ref _, .int _]) d_LAW_84 rfl ms_LW_foretold st_LAW_343 rfl rfl (Nat.le_of_ble_eq_true rfl) (cl_LW_foretold hm hT W p) (fun _ _ z => z.elim) (fun v h4 z => ?_)
  obtain ⟨rfl, γ4, L4, B4, W4, p4⟩ := z
  refine g_if_eq (pc := 87) (tgt := 102) d_LAW_87 (by decide) (fun c_87 => ?_) (fun c_87 => ?_)
  · exact absurd c_87 (by decide)
  · skip
    refine g_aload_n (pc := 90) d_LAW_90 rfl 0 rfl ?_
    refine g_aload_n (pc := 91) d_LAW_91 rfl 1 rfl ?_
    refine g_h W4.eq.symm ?_
    refine g_cS1 (pc := 92) (As := [.ref _, .ref _]) d_LAW_92 rfl ms_LW_seen st_LAW_340 rfl rfl (Nat.le_of_ble_eq_true rfl) (cl_LW_seen W4 p4) ?_
    refine g_if_eq (pc := 95) (tgt := 102) d_LAW_95 (by decide) (fun c_95 => ?_) (fun c_95 => ?_)
    · exact absurd c_95 (by decide)
    · skip
      refine g_iconst (pc := 98) (v := 1) d_LAW_98 (by decide) ?_
      refine g_goto (pc := 99) (tgt := 103) d_LAW_99 (by decide) ?_
      refine g_zret (pc := 103) d_LAW_103 rfl rfl ?_
      exact hp _
set_option maxRecDepth 20000 in
theorem lp_law1 {E : En} {A : Nat → Nat} {n nw sc : Nat} {PP : Option Value → Hp → Prop} {X : String → Hp → Prop} (hE : (eL E).stackTraces = false) (hX : eXl E < 2 ^ 31) (hp : ∀ h, PP (some (.int 1)) h) : ∀ (d q : Nat) (h : Hp) (γ : Nat → Nat) (ni : Nat) (L B : Bu), q ≤ 40 → 40 - q < d → WS h A γ n nw sc L B → PB nw sc ni (6 * q) L B → G E m_LAW 22 [(3, .int (nI q)), (1, .ref (A 22)), (2, .ref (A 23)), (0, .ref (eXa E))] [] h (72 * (40 - q) + 300) (984 * (40 - q) + 4100) PP X := by
  intro d
  induction d with
  | zero => intros; omega
  | succ d ih =>
    intro q h γ ni L B hq hd W p
    refine g_iload_n (pc := 22) d_LAW_22 rfl 0 rfl ?_
    refine g_bipush (pc := 23) (v := 40) d_LAW_23 (by decide) ?_
    refine g_top (y := nI 40) rfl ?_
    refine g_icmp_ge (pc := 25) (tgt := 70) d_LAW_25 (by decide) (fun c_25 => ?_) (fun c_25 => ?_)
    · skip
      refine g_perm [1, 2, 3] rfl ?_
      exact G.mono (by omega) (by omega) (lp_law2 hE hX hp W p (by omega))
    · skip
      have hq9 : q < 40 := Nat.lt_of_not_le (fun z => c_25 ((nI_leI9 (a := 40) (b := q) (by decide) (by omega)).mpr z))
      refine g_aload_n (pc := 28) d_LAW_28 rfl 1 rfl ?_
      refine g_aload_n (pc := 29) d_LAW_29 rfl 2 rfl ?_
      refine g_aload_n (pc := 30) d_LAW_30 rfl 3 rfl ?_
      refine g_bipush (pc := 31) (v := 67) d_LAW_31 (by decide) ?_
      refine g_iconst (pc := 33) (v := 3) d_LAW_33 (by decide) ?_
      refine g_iload_n (pc := 34) d_LAW_34 rfl 0 rfl ?_
      refine g_imul (pc := 35) d_LAW_35 ?_
      refine g_iadd (pc := 36) d_LAW_36 ?_
      refine g_top (y := nI (67 + 3 * q)) (by show nI 67 + nI 3 * nI q = _; rw [nI_mul, nI_add]) ?_
      refine G.mono (k := (72 * (40 - (q + 1)) + 300) + 72) (n := (984 * (40 - (q + 1)) + 4100) + 984) (by omega) (by omega) ?_
      refine g_callS (k := 72 * (40 - (q + 1)) + 300) (n := 984 * (40 - (q + 1)) + 4100) (kz := 72) (nz := 984) (pc := 37) (As := [.ref _, .ref _, .ref _, .int _]) d_LAW_37 rfl ms_LW_acted st_LAW_336 rfl rfl (Nat.le_of_ble_eq_true rfl) (cl_LW_acted hE hX W p (by omega) (by omega)) (fun _ _ z => z.elim) (fun v h4 z => ?_)
      obtain ⟨rfl, γ4, ni4, L4, B4, W4, p4⟩ := z
      refine g_if_ne (pc := 40) (tgt := 45) d_LAW_40 (by decide) (fun c_40 => ?_) (fun c_40 => ?_)
      · skip
        refine g_iload_n (pc := 45) d_LAW_45 rfl 0 rfl ?_
        refine g_bipush (pc := 46) (v := 10) d_LAW_46 (by decide) ?_
        refine g_irem (pc := 48) d_LAW_48 (by decide) ?_
        refine g_bipush (pc := 49) (v := 9) d_LAW_49 (by decide) ?_
        refine g_icmp_ne (pc := 51) (tgt := 64) d_LAW_51 (by decide) (fun c_51 => ?_) (fun c_51 => ?_)
        · skip
          obtain ⟨x_1, hx_1⟩ : ∃ y : Int32, y = (nI q) + 1 := ⟨_, rfl⟩
          refine g_iinc (pc := 64) (w := 0) (v := x_1) (lv' := [(3, .int x_1), (1, .ref (A 22)), (2, .ref (A 23)), (0, .ref (eXa E))]) d_LAW_64 rfl (by rw [hx_1]; rfl) (by decide) rfl ?_
          refine g_goto (pc := 67) (tgt := 22) d_LAW_67 (by decide) ?_
          obtain rfl : x_1 = nI (q + 1) := by rw [hx_1]; exact nI_1 _
          refine g_perm [0, 1, 2, 3] rfl ?_
          exact ih (q + 1) h4 γ4 ni4 L4 B4 (by omega) (by omega) W4 (p4.mono (by omega))
        · skip
          refine g_aload_n (pc := 54) d_LAW_54 rfl 1 rfl ?_
          refine g_aload_n (pc := 55) d_LAW_55 rfl 2 rfl ?_
          refine g_h W4.eq.symm ?_
          refine g_cS1 (pc := 56) (As := [.ref _, .ref _]) d_LAW_56 rfl ms_LW_seen st_LAW_340 rfl rfl (Nat.le_of_ble_eq_true rfl) (cl_LW_seen W4 p4) ?_
          refine g_h W4.eq ?_
          refine g_if_ne (pc := 59) (tgt := 64) d_LAW_59 (by decide) (fun c_59 => ?_) (fun c_59 => ?_)
          · skip
            obtain ⟨x_2, hx_2⟩ : ∃ y : Int32, y = (nI q) + 1 := ⟨_, rfl⟩
            refine g_iinc (pc := 64) (w := 0) (v := x_2) (lv' := [(3, .int x_2), (1, .ref (A 22)), (2, .ref (A 23)), (0, .ref (eXa E))]) d_LAW_64 rfl (by rw [hx_2]; rfl) (by decide) rfl ?_
            refine g_goto (pc := 67) (tgt := 22) d_LAW_67 (by decide) ?_
            obtain rfl : x_2 = nI (q + 1) := by rw [hx_2]; exact nI_1 _
            refine g_perm [0, 1, 2, 3] rfl ?_
            exact ih (q + 1) h4 γ4 ni4 L4 B4 (by omega) (by omega) W4 (p4.mono (by omega))
          · exact absurd c_59 (by decide)
      · exact absurd c_40 (by decide)
set_option maxRecDepth 20000 in
theorem law_G {E : En} {PP : Option Value → Hp → Prop} {X : String → Hp → Prop} (hE : (eL E).stackTraces = false) (hl : eXl E ≤ 260) (hp : ∀ h, PP (some (.int 1)) h) {h0 : Hp} : G E m_LAW 0 [(0, .ref (eXa E))] [] h0 4000 180000 PP X := by
  have hX : eXl E < 2 ^ 31 := by omega
  refine G.mono (k := ((3500 + 400) + 35) + 1) (n := ((45000 + 130000) + 929) + cNf 0) (by decide) (by decide) ?_
  refine g_new (pc := 0) d_LAW_0 cl_LAW_8 (by decide) (fun x hx => ?_)
  refine g_dup (pc := 3) d_LAW_3 rfl ?_
  refine g_callI (kz := 35) (nz := 929) (pc := 4) (As := []) (b := x) d_LAW_4 rfl mi_HS_init st_LAW_331 rfl rfl (Nat.le_of_ble_eq_true rfl) (cn_HS_init hx) (fun _ _ z => z.elim) (fun v h1 z => ?_)
  obtain ⟨rfl, pa, ip, bt, sc, vb, sb, nb, rw', hy, pp, sn, so, ob, b, sp, e1, shc, ⟨x2, x3, pp0, sn0⟩, ⟨ip1, pa4, pa5, hy0, so0⟩, vb1, cw⟩ := z
  obtain ⟨γ1, c1⟩ := cw id [] Cw_nil
  have c := CS_0 (shc (fun _ => 0)) x2 x3 pp0 sn0 c1
  refine g_astore_n (pc := 7) (lv' := [(1, .ref x), (0, .ref (eXa E))]) d_LAW_7 rfl (by decide) rfl ?_
  refine g_aload_n (pc := 8) d_LAW_8 rfl 0 rfl ?_
  refine g_aload_n (pc := 9) d_LAW_9 rfl 1 rfl ?_
  refine g_callS (k := 3500) (n := 45000) (kz := 400) (nz := 130000) (pc := 10) (As := [.ref x, .ref (eXa E)]) d_LAW_10 rfl ms_LW_begun st_LAW_332 rfl rfl (Nat.le_of_ble_eq_true rfl) (cl_LW_begun (A := (fun i => if i < 9 then (fun _ => 0) i else [so, ob, sn, hy, pp, pa, ip, bt, sc, vb, sb, nb, rw', x].getD (i - 9) 0)) (V0 := nB Y_0.2.2.2) hX c ⟨0, 0, ⟨by show hI h1 hy 1 = nI 0; rw [hy0]; rfl, by show hI h1 hy 2 = nI 0; rw [hy0]; rfl⟩, by decide, by decide⟩ ip1 ⟨b, x2, vb1⟩ (Gd_nB Gd_Y0)) (fun _ _ z => z.elim) (fun v h2 z => ?_)
  obtain ⟨A, γ, n, nw, sc', ni, L, B, ex, rfl, W, p⟩ := z
  have ex : x = A 22 := ex.symm
  rw [ex]
  refine g_astore_n (pc := 13) (lv' := [(2, .ref (A 23)), (1, .ref (A 22)), (0, .ref (eXa E))]) d_LAW_13 rfl (by decide) rfl ?_
  refine g_aload_n (pc := 14) d_LAW_14 rfl 0 rfl ?_
  refine g_ifnonnull (pc := 15) (tgt := 20) d_LAW_15 (by decide) ?_
  refine g_iconst (pc := 20) (v := 0) d_LAW_20 (by decide) ?_
  refine g_istore_n (pc := 21) (lv' := [(3, .int (nI 0)), (2, .ref (A 23)), (1, .ref (A 22)), (0, .ref (eXa E))]) d_LAW_21 rfl (by decide) rfl ?_
  refine g_perm [0, 2, 1, 3] rfl ?_
  exact G.mono (by decide) (by decide) (lp_law1 hE hX hp 41 0 h2 γ ni L B (by decide) (by decide) W p)
