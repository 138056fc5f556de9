/-! THE LAW: its start -/
theorem case23 {P : Nat → Prop} (h0 : P 0) (h1 : P 1) (h2 : P 2) (h3 : P 3) (h4 : P 4) (h5 : P 5) (h6 : P 6) (h7 : P 7) (h8 : P 8) (h9 : P 9) (h10 : P 10) (h11 : P 11) (h12 : P 12) (h13 : P 13) (h14 : P 14) (h15 : P 15) (h16 : P 16) (h17 : P 17) (h18 : P 18) (h19 : P 19) (h20 : P 20) (h21 : P 21) (h22 : P 22) : ∀ w, w < 23 → P w
  | 0, _ => h0
  | 1, _ => h1
  | 2, _ => h2
  | 3, _ => h3
  | 4, _ => h4
  | 5, _ => h5
  | 6, _ => h6
  | 7, _ => h7
  | 8, _ => h8
  | 9, _ => h9
  | 10, _ => h10
  | 11, _ => h11
  | 12, _ => h12
  | 13, _ => h13
  | 14, _ => h14
  | 15, _ => h15
  | 16, _ => h16
  | 17, _ => h17
  | 18, _ => h18
  | 19, _ => h19
  | 20, _ => h20
  | 21, _ => h21
  | 22, _ => h22
  | n + 23, h => absurd h (by omega)
theorem ShC.ext {h h2 : Hp} {A : Nat → Nat} (e : Ext h h2) (c : ShC h A) : ShC h2 A := by
  obtain ⟨⟨a1, a2, a3, a4, a5, a6⟩, ⟨p1, p2, p3, p4, p5, p6⟩, ⟨i1, i2, i3, i4⟩, ⟨s1, s2, s3, s4, s5, s6, s7, s8, s9, s10⟩, ⟨y1, y2, y3, y4⟩, ⟨n1, n2⟩, ⟨b1, b2, b3, b4⟩⟩ := c
  have K : ∀ {q k : Nat}, hK h q = k → k ≠ 0 → hK h2 q = k := fun {q k} z hk => ((e q (by rw [z]; exact hk)).2.2.2.1).trans z
  have R : ∀ {q k j : Nat} {v : Option Nat}, hK h q = k → hR h q j = v → k ≠ 0 → hR h2 q j = v := fun {q k j v} z y hk => (congrFun (e q (by rw [z]; exact hk)).2.1 j).trans y
  have L : ∀ {q k n : Nat}, hK h q = k → hL h q = n → k ≠ 0 → hL h2 q = n := fun {q k n} z y hk => ((e q (by rw [z]; exact hk)).2.2.2.2).trans y
  exact ⟨⟨K a1 (by decide), R a1 a2 (by decide), R a1 a3 (by decide), R a1 a4 (by decide), R a1 a5 (by decide), R a1 a6 (by decide)⟩, ⟨K p1 (by decide), R p1 p2 (by decide), R p1 p3 (by decide), R p1 p4 (by decide), K p5 (by decide), L p5 p6 (by decide)⟩, ⟨K i1 (by decide), R i1 i2 (by decide), K i3 (by decide), L i3 i4 (by decide)⟩, ⟨K s1 (by decide), R s1 s2 (by decide), R s1 s3 (by decide), R s1 s4 (by decide), K s5 (by decide), L s5 s6 (by decide), K s7 (by decide), L s7 s8 (by decide), K s9 (by decide), L s9 s10 (by decide)⟩, ⟨K y1 (by decide), R y1 y2 (by decide), K y3 (by decide), L y3 y4 (by decide)⟩, ⟨K n1 (by decide), L n1 n2 (by decide)⟩, ⟨K b1 (by decide), R b1 b2 (by decide), K b3 (by decide), L b3 b4 (by decide)⟩⟩
theorem MpU.ext {h h2 : Hp} {m st mi nu co wd mo sv : Nat} (e : Ext h h2) (p : MpOk h m st mi nu co wd) (u : MuOk h m mo) (v : hR h m 3 = some sv ∧ hK h sv = 22 ∧ hL h sv = 2) : MpOk h2 m st mi nu co wd ∧ MuOk h2 m mo ∧ (hR h2 m 3 = some sv ∧ hK h2 sv = 22 ∧ hL h2 sv = 2) := by
  obtain ⟨a1, a2, a3, a4, a5, a6, a7, a8, a9, a10, a11, a12, a13, a14, a15, a16⟩ := p
  obtain ⟨u1, u2, u3⟩ := u
  obtain ⟨v1, v2, v3⟩ := v
  have K : ∀ {q k : Nat}, hK h q = k → k ≠ 0 → hK h2 q = k := fun {q k} z hk => ((e q (by rw [z]; exact hk)).2.2.2.1).trans z
  have R : ∀ {q k j : Nat} {v : Option Nat}, hK h q = k → hR h q j = v → k ≠ 0 → hR h2 q j = v := fun {q k j v} z y hk => (congrFun (e q (by rw [z]; exact hk)).2.1 j).trans y
  have L : ∀ {q k n : Nat}, hK h q = k → hL h q = n → k ≠ 0 → hL h2 q = n := fun {q k n} z y hk => ((e q (by rw [z]; exact hk)).2.2.2.2).trans y
  exact ⟨⟨K a1 (by decide), R a1 a2 (by decide), K a3 (by decide), L a3 a4 (by decide), R a1 a5 (by decide), K a6 (by decide), L a6 a7 (by decide), R a1 a8 (by decide), K a9 (by decide), L a9 a10 (by decide), R a1 a11 (by decide), K a12 (by decide), L a12 a13 (by decide), R a1 a14 (by decide), K a15 (by decide), L a15 a16 (by decide)⟩, ⟨R a1 u1 (by decide), K u2 (by decide), L u2 u3 (by decide)⟩, R a1 v1 (by decide), K v2 (by decide), L v2 v3 (by decide)⟩
def s_0' : Sv := (fun _ => (3, 3, 1, nB Y_0.2.2.2), (0, 0), fun _ => false, (Z_0, 0, 0, -1), [])
theorem Vt_0 {t : Nat} (v : Vt s_0' t) : t = 0 := by
  rcases v with e | ⟨j, hj, -⟩ | ⟨i, -, -, e⟩
  · exact e
  · exact absurd hj (Nat.not_lt_zero _)
  · exact absurd (show false = true from e) (by decide)
theorem getD_inj {l : List Nat} (nd : l.Nodup) {i j : Nat} (hi : i < l.length) (hj : j < l.length) (e : l.getD i 0 = l.getD j 0) : i = j := by
  rw [List.getD_eq_getElem?_getD, List.getD_eq_getElem?_getD, List.getElem?_eq_getElem hi, List.getElem?_eq_getElem hj] at e
  have k := List.pairwise_iff_getElem.mp nd
  have e : l[i] = l[j] := e
  rcases Nat.lt_trichotomy i j with q | q | q
  · exact absurd e (k i j hi hj q)
  · exact q
  · exact absurd e.symm (k j i hj hi q)
theorem getD_mem {l : List Nat} {i : Nat} (hi : i < l.length) : l.getD i 0 ∈ l := by
  rw [List.getD_eq_getElem?_getD, List.getElem?_eq_getElem hi]
  exact List.getElem_mem hi
theorem LI_0 {H h1 h2 : Hp} {out wd mo co nu mi sv st m so ob sn hy pp pa ip bt sc vb sb nb rw' x b sp : Nat} {γ : Nat → Nat} (e2 : Ext h1 h2) (e3 : Ext h2 H) (sh : ShC h1 (fun i => if i < 9 then [out, wd, mo, co, nu, mi, sv, st, m].getD i 0 else [so, ob, sn, hy, pp, pa, ip, bt, sc, vb, sb, nb, rw', x].getD (i - 9) 0)) (x2 : hR h1 x 2 = some b) (x3 : hR h1 x 3 = some sp) (pp0 : ∀ j, hR h1 pp j = none) (sn0 : ∀ j, hR h1 sn j = none) (ip1 : hI h1 ip 1 = 0) (pa4 : hI h1 pa 4 = 0) (pa5 : hI h1 pa 5 = -1) (hy0 : hI h1 hy = fun _ => 0) (so0 : hI h1 so = fun _ => 0) (vb1 : vB h1 b = nB Y_0.2.2.2)
    (hM : MpOk h2 m st mi nu co wd) (hU : MuOk h2 m mo) (hV : hR h2 m 3 = some sv ∧ hK h2 sv = 22 ∧ hL h2 sv = 2) (iM : hI h2 m = cM_0) (iS : hI h2 st = G_7) (iV : hI h2 sv = Z_0) (iW : hI h2 wd = wdR) (ko : hK H out = 24) (lo : hL H out = 1) (c1 : ∃ γ1, Cw h1 γ1 ([so, ob, sn, hy, pp, pa, ip, bt, sc, vb, sb, nb, rw', x] ++ []) [b, sp]) (cw : Cw H γ ([out] ++ ([wd, mo, co, nu, mi, sv, st, m] ++ ([so, ob, sn, hy, pp, pa, ip, bt, sc, vb, sb, nb, rw', x] ++ []))) [b, sp]) : LOK H (fun i => if i < 9 then [out, wd, mo, co, nu, mi, sv, st, m].getD i 0 else [so, ob, sn, hy, pp, pa, ip, bt, sc, vb, sb, nb, rw', x].getD (i - 9) 0) 0 := by
  obtain ⟨γ1, c1⟩ := c1
  have e : Ext h1 H := e2.trans e3
  have shH := sh.ext e
  obtain ⟨hM', hU', hV'⟩ := MpU.ext e3 hM hU hV
  have kx : hK h1 x = 1 := sh.1.1
  have bk := c1.2.2.2 b List.mem_cons_self
  have hvb : vB H b = nB Y_0.2.2.2 := by
    rw [(bk.kq (γ' := γ1) (Kp.of x e) (by rw [kx]; decide) (by rw [kx]; decide) (fun _ _ => rfl)).2]
    exact vb1
  have rx : hR H x = hR h1 x := (e x (by rw [kx]; decide)).2.1
  have rpp : hR H pp = hR h1 pp := (e pp (by have := sh.2.2.2.2.1.2.2.1; exact fun z => absurd (this.symm.trans z) (by decide))).2.1
  have rsn : hR H sn = hR h1 sn := (e sn (by have := sh.2.2.2.2.2.1.1; exact fun z => absurd (this.symm.trans z) (by decide))).2.1
  have ihy : hI H hy = fun _ => 0 := ((e hy (by have := sh.2.2.2.2.1.1; exact fun z => absurd (this.symm.trans z) (by decide))).1).trans hy0
  have iso : hI H so = fun _ => 0 := ((e so (by have := sh.2.2.2.2.2.2.1; exact fun z => absurd (this.symm.trans z) (by decide))).1).trans so0
  have iip : hI H ip 1 = 0 := (congrFun (e ip (by have := sh.2.2.1.1; exact fun z => absurd (this.symm.trans z) (by decide))).1 1).trans ip1
  have ipa := (e pa (by have := sh.2.1.1; exact fun z => absurd (this.symm.trans z) (by decide))).1
  obtain ⟨k_m, r_m_0, k_st, l_st, r_m_4, k_mi, l_mi, r_m_12, k_nu, l_nu, r_m_13, k_co, l_co, r_m_18, k_wd, l_wd⟩ := id hM
  have im : hI H m = cM_0 := ((e3 m (by rw [k_m]; decide)).1).trans iM
  have ist : hI H st = G_7 := ((e3 st (by rw [k_st]; decide)).1).trans iS
  have isv : hI H sv = Z_0 := ((e3 sv (by rw [hV.2.1]; decide)).1).trans iV
  have iwd : hI H wd = wdR := ((e3 wd (by rw [k_wd]; decide)).1).trans iW
  have hA : ∀ i, i < 23 → (fun i : Nat => if i < 9 then [out, wd, mo, co, nu, mi, sv, st, m].getD i 0 else [so, ob, sn, hy, pp, pa, ip, bt, sc, vb, sb, nb, rw', x].getD (i - 9) 0) i = ([out] ++ ([wd, mo, co, nu, mi, sv, st, m] ++ ([so, ob, sn, hy, pp, pa, ip, bt, sc, vb, sb, nb, rw', x] ++ []))).getD i 0 := case23 rfl rfl rfl rfl rfl rfl rfl rfl rfl rfl rfl rfl rfl rfl rfl rfl rfl rfl rfl rfl rfl rfl rfl
  have ba : ∀ t, t < 12 → bA H (fun i => if i < 9 then [out, wd, mo, co, nu, mi, sv, st, m].getD i 0 else [so, ob, sn, hy, pp, pa, ip, bt, sc, vb, sb, nb, rw', x].getD (i - 9) 0) t = if t = 0 then some b else if t ≤ 10 then none else some sp := by
    intro t ht
    show (if t = 0 then hR H x 2 else if t ≤ 8 then hR H pp (t - 1) else if t ≤ 10 then hR H sn (t - 9) else hR H x 3) = _
    rw [rx, rpp, rsn, x2, x3, pp0, sn0]
    by_cases a : t = 0
    · rw [if_pos a, if_pos a]
    · rw [if_neg a, if_neg a]
      by_cases a2 : t ≤ 8
      · rw [if_pos a2, if_pos (by omega)]
      · rw [if_neg a2]
  have nbs : b ≠ sp := by
    have := cw.2.2.1
    rw [List.nodup_cons] at this
    exact fun z => this.1 (by rw [z]; exact List.mem_cons_self)
  refine ⟨γ, s_0', ⟨shH, ⟨hM', hU', hV', ko, lo⟩, ⟨fun i j hi hj q => ?_, fun i hi => ?_⟩, ⟨fun t b' ht q => ?_, fun t t' b' ht ht' q q' => ?_⟩, ⟨sp, ?_⟩, fun t ht v => ?_⟩, fun i hi _ => ?_, ⟨⟨?_, ?_⟩, ⟨iip, fun j hj => absurd hj (Nat.not_lt_zero _)⟩, ⟨?_, ?_⟩, ?_, ?_, fun j hj => absurd hj (Nat.not_lt_zero _)⟩, ⟨⟨?_, ?_, ?_, ?_, ?_, ?_⟩, fun j hj => absurd hj (Nat.not_lt_zero _), fun j hj => absurd hj (Nat.not_lt_zero _), fun i hi => ?_, iwd, fun t ht v => ?_⟩, ⟨by decide, by decide, by decide⟩, ⟨by decide, fun b hb => absurd hb List.not_mem_nil⟩, 0, by decide, fun t ht v => ⟨show 0 < 3 by decide, Gd_nB Y_0_good.1, Pb_nB Y_0_good.2 (show 3 ≤ 8 by decide)⟩⟩
  · rw [hA i hi, hA j hj] at q
    exact getD_inj cw.1 hi hj q
  · rw [hA i hi]
    exact cw.2.1 _ (getD_mem hi)
  · rw [ba t ht] at q
    split at q
    · cases q; exact cw.2.2.2 b List.mem_cons_self
    · split at q
      · cases q
      · cases q; exact cw.2.2.2 sp (List.mem_cons_of_mem _ List.mem_cons_self)
  · rw [ba t ht] at q
    rw [ba t' ht'] at q'
    by_cases a : t = 0
    · rw [if_pos a] at q
      by_cases a' : t' = 0
      · omega
      · rw [if_neg a'] at q'
        by_cases a2 : t' ≤ 10
        · rw [if_pos a2] at q'; cases q'
        · rw [if_neg a2] at q'; cases q; cases q'; exact absurd rfl nbs
    · rw [if_neg a] at q
      by_cases a2 : t ≤ 10
      · rw [if_pos a2] at q; cases q
      · rw [if_neg a2] at q
        by_cases a' : t' = 0
        · rw [if_pos a'] at q'; cases q; cases q'; exact absurd rfl nbs
        · rw [if_neg a'] at q'
          by_cases a3 : t' ≤ 10
          · rw [if_pos a3] at q'; cases q'
          · omega
  · rw [ba 11 (by decide)]; rfl
  · have t0 := Vt_0 v
    subst t0
    exact ⟨b, by rw [ba 0 (by decide)]; rfl, hvb⟩
  · show hR H sn i = none
    rw [rsn]; exact sn0 i
  · show hI H hy 1 = nI 0
    rw [ihy]; rfl
  · show hI H hy 2 = nI 0
    rw [ihy]; rfl
  · show hI H pa 4 = 0
    rw [ipa]; exact pa4
  · show hI H pa 5 = -1
    rw [ipa]; exact pa5
  · show hI H so 1 = 0
    rw [iso]
  · show hI H so 2 = nI 0
    rw [iso]; rfl
  · show hI H m 1 = nI 0
    rw [im]; rfl
  · show hI H m 2 = nI 0
    rw [im]; rfl
  · show hI H m 5 = nI 0
    rw [im]; rfl
  · show hI H m 6 = 0
    rw [im]; rfl
  · show hI H m 7 = -1
    rw [im]; rfl
  · show hI H m 16 = nI 0
    rw [im]; rfl
  · show hI H sv i = bI false
    rw [isv]; rfl
  · have t0 := Vt_0 v
    subst t0
    show Mir (hI H st) 0 (3, 3, 1, nB Y_0.2.2.2)
    rw [ist]
    refine ⟨fun q hq => ?_, ?_⟩
    · have k := G_7_eq q hq
      rw [← enc_nB (B := Y_0.2.2.2) (nw := 3) (sc := 3) (by decide)] at k
      exact k
    · exact G_7_12.trans (money_nB (B := Y_0.2.2.2) (sc := 3) (by decide)).symm
theorem Cw_nil {h : Hp} {γ : Nat → Nat} : Cw h γ [] [] := ⟨List.nodup_nil, fun _ z => absurd z List.not_mem_nil, List.nodup_nil, fun _ z => absurd z List.not_mem_nil⟩
theorem law_G {E : En} {PP : Option Value → Hp → Prop} {X : String → Hp → Prop} (hE : (eL E).stackTraces = false) (hl : eXl E ≤ 3072) (hp : ∀ h, PP (some (.int 1)) h) {h0 : Hp} : G E m_LAW 0 [(0, .ref (eXa E))] [] h0 5677 83490 PP X := by
  show G E m_LAW 0 _ _ h0 (5641 + 35 + 1) (82554 + 929 + cNf 0) _ _
  refine g_new (pc := 0) d_LAW_0 cl_LAW_8 (by decide) (fun x hx => ?_)
  refine g_dup (pc := 3) d_LAW_3 rfl ?_
  refine g_callI (kz := 35) (nz := 929) (pc := 4) (As := []) (b := x) d_LAW_4 rfl mi_HS_init st_LAW_161 rfl rfl (Nat.le_of_ble_eq_true rfl) (cn_HS_init hx) (fun _ _ z => z.elim) (fun v h1 z => ?_)
  obtain ⟨rfl, pa, ip, bt, sc, vb, sb, nb, rw', hy, pp, sn, so, ob, b, sp, e1, shc, ⟨x2, x3, pp0, sn0⟩, ⟨ip1, pa4, pa5, hy0, so0⟩, vb1, cw⟩ := z
  obtain ⟨γ1, c1⟩ := cw id [] Cw_nil
  refine g_astore_n (pc := 7) (lv' := [(1, .ref x), (0, .ref (eXa E))]) d_LAW_7 rfl (by decide) rfl ?_
  show G E m_LAW 8 _ _ h1 (5633 + 7 + 1) (79873 + 2662 + cNf 7) _ _
  refine g_new (pc := 8) d_LAW_8 cl_LAW_162 (by decide) (fun m hm => ?_)
  refine g_dup (pc := 11) d_LAW_11 rfl ?_
  refine g_callI (kz := 7) (nz := 2662) (pc := 12) (As := []) (b := m) d_LAW_12 rfl mi_MO_init st_LAW_164 rfl rfl (Nat.le_of_ble_eq_true rfl) (cn_MO_init hm) (fun _ _ z => z.elim) (fun v h2 z => ?_)
  obtain ⟨rfl, st, sv, mi, nu, co, mo, wd, e2, hM, hU, hV, ⟨iM, iS, iV, iW⟩, fr⟩ := z
  refine g_astore_n (pc := 15) (lv' := [(2, .ref m), (1, .ref x), (0, .ref (eXa E))]) d_LAW_15 rfl (by decide) rfl ?_
  refine g_iconst (pc := 16) (v := 1) d_LAW_16 (by decide) ?_
  show G E m_LAW 17 _ _ h2 (5632 + 1) (79872 + 1) _ _
  refine g_newarray (pc := 17) (kd := 24) (N := 1) d_LAW_17 ⟨by decide, by decide⟩ rfl ac_j (by decide) (by decide) (by decide) (fun out hout => ?_)
  refine g_astore_n (pc := 19) (lv' := [(3, .ref out), (2, .ref m), (1, .ref x), (0, .ref (eXa E))]) d_LAW_19 rfl (by decide) rfl ?_
  refine g_iconst (pc := 20) (v := 0) d_LAW_20 (by decide) ?_
  refine g_istore (pc := 21) (lv' := [(4, .int (nI 0)), (3, .ref out), (2, .ref m), (1, .ref x), (0, .ref (eXa E))]) d_LAW_21 (by decide) rfl ?_
  have sh := shc fun i => [out, wd, mo, co, nu, mi, sv, st, m].getD i 0
  have kx : hK h1 x = 1 := sh.1.1
  have e3 : Ext h2 (hNew h2 out 24 1) := Ext.r.new hout
  have ko : hK (hNew h2 out 24 1) out = 24 := by rw [hK_new, if_pos rfl]
  have lo : hL (hNew h2 out 24 1) out = 1 := by rw [hL_new, if_pos rfl]
  generalize hNew h2 out 24 1 = H at *
  obtain ⟨k_m, r_m_0, k_st, l_st, r_m_4, k_mi, l_mi, r_m_12, k_nu, l_nu, r_m_13, k_co, l_co, r_m_18, k_wd, l_wd⟩ := id hM
  have c2 := c1.obj (l := [wd, mo, co, nu, mi, sv, st, m]) (Kp.of x e2) (by rw [kx]; decide) (by rw [kx]; decide) fr (fun q hq => by
    simp only [List.mem_cons, List.not_mem_nil, or_false] at hq
    rcases hq with rfl | rfl | rfl | rfl | rfl | rfl | rfl | rfl
    · omega
    · have := hU.2.1; omega
    · omega
    · omega
    · omega
    · have := hV.2.1; omega
    · omega
    · omega)
  have kx2 : hK h2 x = 1 := ((e2 x (by rw [kx]; decide)).2.2.2.1).trans kx
  have c3 := c2.obj (l := [out]) (Kp.of x e3) (by rw [kx2]; decide) (by rw [kx2]; decide) (Fr.nil.cons hout (by simp)) (fun q hq => by
    simp only [List.mem_cons, List.not_mem_nil, or_false] at hq
    subst hq
    omega)
  exact lp_law (A := fun i => if i < 9 then [out, wd, mo, co, nu, mi, sv, st, m].getD i 0 else [so, ob, sn, hy, pp, pa, ip, bt, sc, vb, sb, nb, rw', x].getD (i - 9) 0) hE hl hp 512 0 H rfl (LI_0 e2 e3 sh x2 x3 pp0 sn0 ip1 pa4 pa5 hy0 so0 vb1 hM hU hV iM iS iV iW ko lo ⟨γ1, c1⟩ c3)
