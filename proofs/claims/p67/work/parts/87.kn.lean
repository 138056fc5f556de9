/-! THE LAW: acted, the rest -/
set_option maxRecDepth 20000 in
theorem lp_ac1 {E : En} {h : Hp} {A : Nat → Nat} {nw sc k n : Nat} {L : Bu} {PP : Option Value → Hp → Prop} (HL : LbOk h (A 23) nw sc)
    (kk : ∀ c, c < sc → G E m_LW_acted 467 [(9, .int (nI c)), (0, .ref (A 22)), (1, .ref (A 23))] [] (wT h (A 23) sc L) k n PP noX) : ∀ (d j c : Nat), j ≤ sc → sc - j < d → c < sc → G E m_LW_acted 434 [(10, .int (nI j)), (9, .int (nI c)), (0, .ref (A 22)), (1, .ref (A 23))] [] (wT h (A 23) sc L) k n PP noX := by
  intro d
  induction d with
  | zero => intros; omega
  | succ d ih =>
    intro j c hj hd hc
    have s8 := HL.s8
    refine g_iload (pc := 434) d_LW_acted_434 0 rfl ?_
    refine g_aload_n (pc := 436) d_LW_acted_436 rfl 3 rfl ?_
    refine g_th2 (pc := 437) d_LW_acted_437 fl_LW_45 HL ?_
    refine g_tsn (pc := 440) d_LW_acted_440 HL ?_
    refine g_icmp_ge (pc := 441) (tgt := 467) d_LW_acted_441 (by decide) (fun c_441 => ?_) (fun c_441 => ?_)
    · skip
      have eq9 : j = sc := by have := (nI_leI9 (a := sc) (b := j) (by omega) (by omega)).mp c_441; omega
      refine g_perm [1, 2, 3] rfl ?_
      exact kk c hc
    · skip
      have hj9 : j < sc := Nat.lt_of_not_le (fun z => c_441 ((nI_leI9 (by omega) (by omega)).mpr z))
      refine g_aload_n (pc := 444) d_LW_acted_444 rfl 3 rfl ?_
      refine g_th2 (pc := 445) d_LW_acted_445 fl_LW_45 HL ?_
      refine g_iload (pc := 448) d_LW_acted_448 0 rfl ?_
      refine g_tsl (pc := 450) (i := j) d_LW_acted_450 HL (by first | assumption | omega) ?_
      refine g_ttI (pc := 451) (f := 12) rfl d_LW_acted_451 fl_LW_157 HL (by first | assumption | omega) ?_
      refine g_if_ne (pc := 454) (tgt := 461) d_LW_acted_454 (by decide) (fun c_454 => ?_) (fun c_454 => ?_)
      · skip
        obtain ⟨x_1, hx_1⟩ : ∃ y : Int32, y = (nI j) + 1 := ⟨_, rfl⟩
        refine g_iinc (pc := 461) (w := 0) (v := x_1) (lv' := [(10, .int x_1), (9, .int (nI c)), (0, .ref (A 22)), (1, .ref (A 23))]) d_LW_acted_461 rfl (by rw [hx_1]; rfl) (by decide) rfl ?_
        refine g_goto (pc := 464) (tgt := 434) d_LW_acted_464 (by decide) ?_
        obtain rfl : x_1 = nI (j + 1) := by rw [hx_1]; exact nI_1 _
        refine g_perm [0, 1, 2, 3] rfl ?_
        exact ih (j + 1) c (by omega) (by omega) (by assumption)
      · skip
        refine g_iload (pc := 457) d_LW_acted_457 0 rfl ?_
        refine g_istore (pc := 459) (lv' := [(9, .int (nI j)), (10, .int (nI j)), (0, .ref (A 22)), (1, .ref (A 23))]) d_LW_acted_459 (by decide) rfl ?_
        obtain ⟨x_2, hx_2⟩ : ∃ y : Int32, y = (nI j) + 1 := ⟨_, rfl⟩
        refine g_iinc (pc := 461) (w := 1) (v := x_2) (lv' := [(10, .int x_2), (9, .int (nI j)), (0, .ref (A 22)), (1, .ref (A 23))]) d_LW_acted_461 rfl (by rw [hx_2]; rfl) (by decide) rfl ?_
        refine g_goto (pc := 464) (tgt := 434) d_LW_acted_464 (by decide) ?_
        obtain rfl : x_2 = nI (j + 1) := by rw [hx_2]; exact nI_1 _
        refine g_perm [0, 1, 2, 3] rfl ?_
        exact ih (j + 1) j (by omega) (by omega) (by assumption)
set_option maxRecDepth 20000 in
theorem lp_ac2 {E : En} {h : Hp} {A : Nat → Nat} {nw sc k n c : Nat} {L : Bu} {PP : Option Value → Hp → Prop} (HL : LbOk h (A 23) nw sc)
    (kk : G E m_LW_acted 561 [(11, .int (nI (P_open L.2.2 sc))), (9, .int (nI c)), (0, .ref (A 22)), (1, .ref (A 23))] [] (wT h (A 23) sc L) k n PP noX) : ∀ (d j : Nat), j ≤ sc → sc - j < d → G E m_LW_acted 530 [(14, .int (nI j)), (11, .int (nI (P_open L.2.2 j))), (12, .ref (rA h (A 23) 2)), (13, .int (nI sc)), (9, .int (nI c)), (0, .ref (A 22)), (1, .ref (A 23))] [] (wT h (A 23) sc L) k n PP noX := by
  intro d
  induction d with
  | zero => intros; omega
  | succ d ih =>
    intro j hj hd
    have s8 := HL.s8
    refine g_iload (pc := 530) d_LW_acted_530 0 rfl ?_
    refine g_iload (pc := 532) d_LW_acted_532 3 rfl ?_
    refine g_icmp_ge (pc := 534) (tgt := 561) d_LW_acted_534 (by decide) (fun c_534 => ?_) (fun c_534 => ?_)
    · skip
      have eq9 : j = sc := by have := (nI_leI9 (a := sc) (b := j) (by omega) (by omega)).mp c_534; omega
      subst eq9
      refine g_perm [1, 4, 5, 6] rfl ?_
      exact kk
    · skip
      have hj9 : j < sc := Nat.lt_of_not_le (fun z => c_534 ((nI_leI9 (by omega) (by omega)).mpr z))
      refine g_aload (pc := 537) d_LW_acted_537 2 rfl ?_
      refine g_iload (pc := 539) d_LW_acted_539 0 rfl ?_
      refine g_tsl (pc := 541) (i := j) d_LW_acted_541 HL (by first | assumption | omega) ?_
      refine g_astore (pc := 542) (lv' := [(15, .ref (tw h (A 23) j)), (14, .int (nI j)), (11, .int (nI (P_open L.2.2 j))), (12, .ref (rA h (A 23) 2)), (13, .int (nI sc)), (9, .int (nI c)), (0, .ref (A 22)), (1, .ref (A 23))]) d_LW_acted_542 (by decide) rfl ?_
      refine g_aload (pc := 544) d_LW_acted_544 0 rfl ?_
      refine g_ttI (pc := 546) (f := 12) rfl d_LW_acted_546 fl_LW_157 HL (by first | assumption | omega) ?_
      refine g_if_eq (pc := 549) (tgt := 555) d_LW_acted_549 (by decide) (fun c_549 => ?_) (fun c_549 => ?_)
      · skip
        have e5 : P_open L.2.2 (j + 1) = P_open L.2.2 j := by rw [P_open, if_pos c_549]
        obtain ⟨x_1, hx_1⟩ : ∃ y : Int32, y = (nI j) + 1 := ⟨_, rfl⟩
        refine g_iinc (pc := 555) (w := 1) (v := x_1) (lv' := [(14, .int x_1), (15, .ref (tw h (A 23) j)), (11, .int (nI (P_open L.2.2 j))), (12, .ref (rA h (A 23) 2)), (13, .int (nI sc)), (9, .int (nI c)), (0, .ref (A 22)), (1, .ref (A 23))]) d_LW_acted_555 rfl (by rw [hx_1]; rfl) (by decide) rfl ?_
        refine g_goto (pc := 558) (tgt := 530) d_LW_acted_558 (by decide) ?_
        obtain rfl : x_1 = nI (j + 1) := by rw [hx_1]; exact nI_1 _
        have z := ih (j + 1) (by omega) (by omega)
        rw [e5] at z
        refine g_perm [0, 2, 3, 4, 5, 6, 7] rfl ?_
        exact z
      · skip
        have e5 : P_open L.2.2 (j + 1) = P_open L.2.2 j + 1 := by rw [P_open, if_neg c_549]
        obtain ⟨x_2, hx_2⟩ : ∃ y : Int32, y = (nI (P_open L.2.2 j)) + 1 := ⟨_, rfl⟩
        refine g_iinc (pc := 552) (w := 2) (v := x_2) (lv' := [(11, .int x_2), (15, .ref (tw h (A 23) j)), (14, .int (nI j)), (12, .ref (rA h (A 23) 2)), (13, .int (nI sc)), (9, .int (nI c)), (0, .ref (A 22)), (1, .ref (A 23))]) d_LW_acted_552 rfl (by rw [hx_2]; rfl) (by decide) rfl ?_
        obtain ⟨x_3, hx_3⟩ : ∃ y : Int32, y = (nI j) + 1 := ⟨_, rfl⟩
        refine g_iinc (pc := 555) (w := 2) (v := x_3) (lv' := [(14, .int x_3), (11, .int x_2), (15, .ref (tw h (A 23) j)), (12, .ref (rA h (A 23) 2)), (13, .int (nI sc)), (9, .int (nI c)), (0, .ref (A 22)), (1, .ref (A 23))]) d_LW_acted_555 rfl (by rw [hx_3]; rfl) (by decide) rfl ?_
        refine g_goto (pc := 558) (tgt := 530) d_LW_acted_558 (by decide) ?_
        obtain rfl : x_3 = nI (j + 1) := by rw [hx_3]; exact nI_1 _
        obtain rfl : x_2 = nI (P_open L.2.2 j + 1) := by rw [hx_2]; exact nI_1 _
        have z := ih (j + 1) (by omega) (by omega)
        rw [e5] at z
        refine g_perm [0, 1, 3, 4, 5, 6, 7] rfl ?_
        exact z
set_option maxRecDepth 20000 in
theorem la_561 {E : En} {h : Hp} {A γ : Nat → Nat} {n nw sc ni T i k9 : Nat} {L B : Bu} (hE : (eL E).stackTraces = false) (hX : eXl E < 2 ^ 31) (W : WS h A γ n nw sc L B) (p : PB nw sc ni T L B) (hT : T ≤ 90000) (hi : i < sc) (hk9 : k9 < 900) (e12 : B.2.2 i 12 = 0) : G E m_LW_acted 561 [(11, .int (nI (P_open (sS L i (M_open (L.2.2 i))).2.2 sc))), (9, .int (nI i)), (0, .ref (A 22)), (1, .ref (A 23))] [] (wT h (A 23) sc (sS L i (M_open (L.2.2 i)))) 72 984 (AcP A n nw sc T) noX := by
  have HL := W.ok
  have s8 := HL.s8
  have W9 := W.law (L' := L)
  obtain ⟨J, hG, hz, -⟩ := id p
  have JO : Jq nw sc (sS L i (M_open (L.2.2 i))) (sS B i (M_open (B.2.2 i))) := Jq_sS J (Js_u (Js_u (J.2.2 i hi) rfl) rfl)
  refine g_aload_n (pc := 561) d_LW_acted_561 rfl 2 rfl ?_
  refine g_iload (pc := 562) d_LW_acted_562 1 rfl ?_
  refine g_callSX (k := 61) (n := 828) (pc := 564) (As := [.ref _, .int _]) d_LW_acted_564 rfl msx_LW_reopenO st_LW_acted_281 rfl rfl (Nat.le_of_ble_eq_true rfl) (cw_LW_reopenO (W.law (L' := (sS L i (M_open (L.2.2 i))))).kx (wm_HS_reopen (W.law (L' := (sS L i (M_open (L.2.2 i))))) hG hi e12) (fun v h1 r => ⟨_, r.1⟩)) (fun _ _ z => z.elim) (fun v h4 hv => ?_)
  obtain ⟨rfl, γ4, W4, f4⟩ := hv
  refine g_top (y := nI (P_open (sS L i (M_open (L.2.2 i))).2.2 sc)) (congrArg nI (P_open_J sc _ _ (fun j hj => (JO.2.2 j hj 12 (by decide)).symm))) ?_
  have HL4 := W4.ok
  refine g_h W4.eq.symm ?_
  refine g_iload (pc := 567) d_LW_acted_567 0 rfl ?_
  refine g_icmp_ne (pc := 569) (tgt := 584) d_LW_acted_569 (by decide) (fun c_569 => ?_) (fun c_569 => ?_)
  · exact absurd rfl c_569
  · skip
    refine g_aload_n (pc := 572) d_LW_acted_572 rfl 2 rfl ?_
    refine g_aload_n (pc := 573) d_LW_acted_573 rfl 3 rfl ?_
    refine g_cS1 (pc := 574) (As := [.ref _, .ref _]) d_LW_acted_574 rfl ms_LW_same st_LW_acted_196 rfl rfl (Nat.le_of_ble_eq_true rfl) (cl_LW_same HL4 (W4.law (L' := (sS L i (M_open (L.2.2 i))))) (PB_open p hi).2.1 (PB_open p hi).1 (PB_open p hi).2.2.1) ?_
    refine g_if_eq (pc := 577) (tgt := 584) d_LW_acted_577 (by decide) (fun c_577 => ?_) (fun c_577 => ?_)
    · exact absurd c_577 (by decide)
    · skip
      refine g_iconst (pc := 580) (v := 1) d_LW_acted_580 (by decide) ?_
      refine g_goto (pc := 581) (tgt := 585) d_LW_acted_581 (by decide) ?_
      refine g_zret (pc := 585) d_LW_acted_585 rfl rfl ?_
      exact ⟨rfl, γ4, ni, _, _, W4.law (L' := (sS L i (M_open (L.2.2 i)))), (PB_open p hi).mono (by omega)⟩
set_option maxRecDepth 20000 in
theorem la_467 {E : En} {h : Hp} {A γ : Nat → Nat} {n nw sc ni T i k9 : Nat} {L B : Bu} (hE : (eL E).stackTraces = false) (hX : eXl E < 2 ^ 31) (W : WS h A γ n nw sc L B) (p : PB nw sc ni T L B) (hT : T ≤ 90000) (hi : i < sc) (hk9 : k9 < 900) : G E m_LW_acted 467 [(9, .int (nI i)), (0, .ref (A 22)), (1, .ref (A 23))] [] (wT h (A 23) sc L) 72 984 (AcP A n nw sc T) noX := by
  have HL := W.ok
  have s8 := HL.s8
  have W9 := W.law (L' := L)
  obtain ⟨J, hG, hz, -⟩ := id p
  refine g_aload_n (pc := 467) d_LW_acted_467 rfl 2 rfl ?_
  refine g_th2 (pc := 468) d_LW_acted_468 fl_LW_45 HL ?_
  refine g_iload (pc := 471) d_LW_acted_471 0 rfl ?_
  refine g_tsl (pc := 473) (i := i) d_LW_acted_473 HL (by first | assumption | omega) ?_
  refine g_astore (pc := 474) (lv' := [(10, .ref (tw h (A 23) i)), (9, .int (nI i)), (0, .ref (A 22)), (1, .ref (A 23))]) d_LW_acted_474 (by decide) rfl ?_
  refine g_aload (pc := 476) d_LW_acted_476 0 rfl ?_
  refine g_ttI (pc := 478) (f := 12) rfl d_LW_acted_478 fl_LW_157 HL (by first | assumption | omega) ?_
  refine g_if_eq (pc := 481) (tgt := 501) d_LW_acted_481 (by decide) (fun c_481 => ?_) (fun c_481 => ?_)
  · skip
    have e12 : B.2.2 i 12 = 0 := (J.2.2 i hi 12 (by decide)).symm.trans c_481
    refine g_aload (pc := 501) d_LW_acted_501 0 rfl ?_
    refine g_iconst (pc := 503) (v := 1) d_LW_acted_503 (by decide) ?_
    refine g_ttp (pc := 504) (f := 12) rfl d_LW_acted_504 fl_LW_157 (fun q hq => by cases hq; exact rfl) (by rfl) (by rfl) HL (by first | assumption | omega) ?_
    refine g_aload (pc := 507) d_LW_acted_507 0 rfl ?_
    refine g_iconst (pc := 509) (v := 0) d_LW_acted_509 (by decide) ?_
    refine g_ttp (pc := 510) (f := 9) rfl d_LW_acted_510 fl_LW_154 (fun q hq => by cases hq; exact rfl) rfl rfl HL (by first | assumption | omega) ?_
    refine g_h (h' := wT h (A 23) sc (sS L i (M_open (L.2.2 i)))) (congrArg (wT h (A 23) sc) ?_) ?_
    · rw [sS_S, sS_3]
      rfl
    refine g_iconst (pc := 513) (v := 0) d_LW_acted_513 (by decide) ?_
    refine g_istore (pc := 514) (lv' := [(11, .int (nI (P_open (sS L i (M_open (L.2.2 i))).2.2 0))), (10, .ref (tw h (A 23) i)), (9, .int (nI i)), (0, .ref (A 22)), (1, .ref (A 23))]) d_LW_acted_514 (by decide) rfl ?_
    refine g_aload_n (pc := 516) d_LW_acted_516 rfl 4 rfl ?_
    refine g_th2 (pc := 517) d_LW_acted_517 fl_LW_45 HL ?_
    refine g_astore (pc := 520) (lv' := [(12, .ref (rA h (A 23) 2)), (11, .int (nI (P_open (sS L i (M_open (L.2.2 i))).2.2 0))), (10, .ref (tw h (A 23) i)), (9, .int (nI i)), (0, .ref (A 22)), (1, .ref (A 23))]) d_LW_acted_520 (by decide) rfl ?_
    refine g_aload (pc := 522) d_LW_acted_522 0 rfl ?_
    refine g_tsn (pc := 524) d_LW_acted_524 HL ?_
    refine g_istore (pc := 525) (lv' := [(13, .int (nI sc)), (12, .ref (rA h (A 23) 2)), (11, .int (nI (P_open (sS L i (M_open (L.2.2 i))).2.2 0))), (10, .ref (tw h (A 23) i)), (9, .int (nI i)), (0, .ref (A 22)), (1, .ref (A 23))]) d_LW_acted_525 (by decide) rfl ?_
    refine g_iconst (pc := 527) (v := 0) d_LW_acted_527 (by decide) ?_
    refine g_istore (pc := 528) (lv' := [(14, .int (nI 0)), (13, .int (nI sc)), (12, .ref (rA h (A 23) 2)), (11, .int (nI (P_open (sS L i (M_open (L.2.2 i))).2.2 0))), (10, .ref (tw h (A 23) i)), (9, .int (nI i)), (0, .ref (A 22)), (1, .ref (A 23))]) d_LW_acted_528 (by decide) rfl ?_
    refine g_perm [0, 3, 2, 1, 5, 6, 7] rfl ?_
    exact lp_ac2 (L := (sS L i (M_open (L.2.2 i)))) HL (la_561 hE hX W p hT hi hk9 e12) (sc + 1) 0 (by omega) (by omega)
  · skip
    have e12 : B.2.2 i 12 = 1 := (hG.2.2 i hi).1.resolve_left (fun z => c_481 ((J.2.2 i hi 12 (by decide)).trans z))
    refine g_aload_n (pc := 484) d_LW_acted_484 rfl 2 rfl ?_
    refine g_iload (pc := 485) d_LW_acted_485 1 rfl ?_
    refine g_callSX (k := 61) (n := 828) (pc := 487) (As := [.ref _, .int _]) d_LW_acted_487 rfl msx_LW_reopenO st_LW_acted_281 rfl rfl (Nat.le_of_ble_eq_true rfl) (cz_LW_reopenO W9.kx (cE W9 (fun b b1 b2 => ce_HS_reopenS hE W9.kx b1 b2 hG hi e12))) (fun _ _ z => z.elim) (fun v h4 hv => ?_)
    obtain ⟨rfl, h4e⟩ := hv
    subst h4e
    refine g_bipush (pc := 490) (v := (-100)) d_LW_acted_490 (by decide) ?_
    refine g_icmp_ne (pc := 492) (tgt := 499) d_LW_acted_492 (by decide) (fun c_492 => ?_) (fun c_492 => ?_)
    · exact absurd rfl c_492
    · skip
      refine g_iconst (pc := 495) (v := 1) d_LW_acted_495 (by decide) ?_
      refine g_goto (pc := 496) (tgt := 500) d_LW_acted_496 (by decide) ?_
      refine g_zret (pc := 500) d_LW_acted_500 rfl rfl ?_
      exact ⟨rfl, γ, ni, L, B, W9, p.mono (by omega)⟩
set_option maxRecDepth 20000 in
theorem la_427 {E : En} {h : Hp} {A γ : Nat → Nat} {n nw sc ni T i k9 : Nat} {L B : Bu} (hE : (eL E).stackTraces = false) (hX : eXl E < 2 ^ 31) (W : WS h A γ n nw sc L B) (p : PB nw sc ni T L B) (hT : T ≤ 90000) (hi : i < sc) (hk9 : k9 < 900) : G E m_LW_acted 427 [(5, .ref (tw h (A 23) i)), (4, .int (nI i)), (0, .ref (A 22)), (1, .ref (A 23)), (2, .ref (eXa E)), (3, .int (nI k9))] [] (wT h (A 23) sc L) 72 984 (AcP A n nw sc T) noX := by
  have HL := W.ok
  have s8 := HL.s8
  have W9 := W.law (L' := L)
  obtain ⟨J, hG, hz, -⟩ := id p
  refine g_iload (pc := 427) d_LW_acted_427 1 rfl ?_
  refine g_istore (pc := 429) (lv' := [(9, .int (nI i)), (5, .ref (tw h (A 23) i)), (4, .int (nI i)), (0, .ref (A 22)), (1, .ref (A 23)), (2, .ref (eXa E)), (3, .int (nI k9))]) d_LW_acted_429 (by decide) rfl ?_
  refine g_iconst (pc := 431) (v := 0) d_LW_acted_431 (by decide) ?_
  refine g_istore (pc := 432) (lv' := [(10, .int (nI 0)), (9, .int (nI i)), (5, .ref (tw h (A 23) i)), (4, .int (nI i)), (0, .ref (A 22)), (1, .ref (A 23)), (2, .ref (eXa E)), (3, .int (nI k9))]) d_LW_acted_432 (by decide) rfl ?_
  refine g_perm [0, 1, 4, 5] rfl ?_
  exact lp_ac1 HL (fun c hc => la_467 hE hX W p hT hc hk9) (sc + 1) 0 i (by omega) (by omega) hi
set_option maxRecDepth 20000 in
theorem la_586 {E : En} {h : Hp} {A γ : Nat → Nat} {n nw sc ni T i k9 : Nat} {L B : Bu} (hE : (eL E).stackTraces = false) (hX : eXl E < 2 ^ 31) (W : WS h A γ n nw sc L B) (p : PB nw sc ni T L B) (hT : T ≤ 90000) (hi : i < sc) (hk9 : k9 < 900) : G E m_LW_acted 586 [(5, .ref (tw h (A 23) i)), (4, .int (nI i)), (0, .ref (A 22)), (1, .ref (A 23)), (2, .ref (eXa E)), (3, .int (nI k9))] [] (wT h (A 23) sc L) 72 984 (AcP A n nw sc T) noX := by
  have HL := W.ok
  have s8 := HL.s8
  have W9 := W.law (L' := L)
  obtain ⟨J, hG, hz, -⟩ := id p
  obtain ⟨m1, hm1, hp1⟩ := cl_LW_pick (E := E) (k := k9 + 1) (n := 4) hX (by omega) (by decide) (by decide)
  obtain ⟨m2, hm2, hp2⟩ := cl_LW_pick (E := E) (k := k9 + 2) (n := 30) hX (by omega) (by decide) (by decide)
  have p1 := PB_insp p (m := m1) (by omega)
  refine g_aload_n (pc := 586) d_LW_acted_586 rfl 3 rfl ?_
  refine g_th0 (pc := 587) d_LW_acted_587 fl_LW_30 HL ?_
  refine g_iconst (pc := 590) (v := 5) d_LW_acted_590 (by decide) ?_
  refine g_thl (pc := 591) (j := 5) d_LW_acted_591 HL (by decide) ?_
  refine g_istore (pc := 592) (lv' := [(12, .int (L.1 5)), (5, .ref (tw h (A 23) i)), (4, .int (nI i)), (0, .ref (A 22)), (1, .ref (A 23)), (2, .ref (eXa E)), (3, .int (nI k9))]) d_LW_acted_592 (by decide) rfl ?_
  refine g_aload_n (pc := 594) d_LW_acted_594 rfl 4 rfl ?_
  refine g_th0 (pc := 595) d_LW_acted_595 fl_LW_30 HL ?_
  refine g_iconst (pc := 598) (v := 2) d_LW_acted_598 (by decide) ?_
  refine g_thl (pc := 599) (j := 2) d_LW_acted_599 HL (by decide) ?_
  refine g_istore (pc := 600) (lv' := [(13, .int (L.1 2)), (12, .int (L.1 5)), (5, .ref (tw h (A 23) i)), (4, .int (nI i)), (0, .ref (A 22)), (1, .ref (A 23)), (2, .ref (eXa E)), (3, .int (nI k9))]) d_LW_acted_600 (by decide) rfl ?_
  refine g_aload_n (pc := 602) d_LW_acted_602 rfl 5 rfl ?_
  refine g_th0 (pc := 603) d_LW_acted_603 fl_LW_30 HL ?_
  refine g_iconst (pc := 606) (v := 5) d_LW_acted_606 (by decide) ?_
  refine g_aload_n (pc := 607) d_LW_acted_607 rfl 6 rfl ?_
  refine g_iload_n (pc := 608) d_LW_acted_608 rfl 7 rfl ?_
  refine g_iconst (pc := 609) (v := 1) d_LW_acted_609 (by decide) ?_
  refine g_iadd (pc := 610) d_LW_acted_610 ?_
  refine g_top (y := nI (k9 + 1)) (nI_add k9 1) ?_
  refine g_iconst (pc := 611) (v := 4) d_LW_acted_611 (by decide) ?_
  refine g_top (y := nI 4) rfl ?_
  refine g_cS1 (pc := 612) (As := [.ref _, .int _, .int _]) d_LW_acted_612 rfl ms_LW_pick st_LW_acted_34 rfl rfl (Nat.le_of_ble_eq_true rfl) (hp1 _) ?_
  refine g_ths (pc := 615) (j := 5) d_LW_acted_615 HL (by decide) ?_
  refine g_aload_n (pc := 616) d_LW_acted_616 rfl 5 rfl ?_
  refine g_th0 (pc := 617) d_LW_acted_617 fl_LW_30 HL ?_
  refine g_iconst (pc := 620) (v := 2) d_LW_acted_620 (by decide) ?_
  refine g_aload_n (pc := 621) d_LW_acted_621 rfl 6 rfl ?_
  refine g_iload_n (pc := 622) d_LW_acted_622 rfl 7 rfl ?_
  refine g_iconst (pc := 623) (v := 2) d_LW_acted_623 (by decide) ?_
  refine g_iadd (pc := 624) d_LW_acted_624 ?_
  refine g_top (y := nI (k9 + 2)) (nI_add k9 2) ?_
  refine g_bipush (pc := 625) (v := 30) d_LW_acted_625 (by decide) ?_
  refine g_top (y := nI 30) rfl ?_
  refine g_cS1 (pc := 627) (As := [.ref _, .int _, .int _]) d_LW_acted_627 rfl ms_LW_pick st_LW_acted_34 rfl rfl (Nat.le_of_ble_eq_true rfl) (hp2 _) ?_
  refine g_ths (pc := 630) (j := 2) d_LW_acted_630 HL (by decide) ?_
  refine g_h (h' := wT h (A 23) sc (sC (sC L (u1 L.1 5 (nI m1))) (u1 (sC L (u1 L.1 5 (nI m1))).1 2 (nI m2)))) rfl ?_
  refine g_aload_n (pc := 631) d_LW_acted_631 rfl 4 rfl ?_
  refine g_aload_n (pc := 632) d_LW_acted_632 rfl 5 rfl ?_
  refine g_th0 (pc := 633) d_LW_acted_633 fl_LW_30 HL ?_
  refine g_iconst (pc := 636) (v := 5) d_LW_acted_636 (by decide) ?_
  refine g_thl (pc := 637) (j := 5) d_LW_acted_637 HL (by decide) ?_
  refine g_top (y := nI m1) rfl ?_
  refine g_callV (k := 61) (n := 828) (pc := 638) (kz := 11) (nz := 156) (ci := 0) (As := [.int _]) d_LW_acted_638 rfl mv_HS_setInspectors st_LW_acted_283 rfl rfl (by decide) (W.law (L' := (sC (sC L (u1 L.1 5 (nI m1))) (u1 (sC L (u1 L.1 5 (nI m1))).1 2 (nI m2))))).kx rfl rfl (Nat.le_of_ble_eq_true rfl) (wm_HS_setInspectors (W.law (L' := (sC (sC L (u1 L.1 5 (nI m1))) (u1 (sC L (u1 L.1 5 (nI m1))).1 2 (nI m2))))) hG (show nI 0 ≤ nI m1 from (nI_leI9 (by decide) (by omega)).mpr (by omega)) (show nI m1 ≤ nI 3 from (nI_leI9 (by omega) (by decide)).mpr (by omega))) (fun _ _ z => z.elim) (fun v h4 hv => ?_)
  obtain ⟨rfl, γ4, W4, f4⟩ := hv
  refine g_top (y := L.1 5) (J.1 5 (by decide)).symm ?_
  have HL := W4.ok
  refine g_h W4.eq.symm ?_
  refine g_iload (pc := 641) d_LW_acted_641 1 rfl ?_
  refine g_icmp_ne (pc := 643) (tgt := 665) d_LW_acted_643 (by decide) (fun c_643 => ?_) (fun c_643 => ?_)
  · exact absurd rfl c_643
  · skip
    refine g_aload_n (pc := 646) d_LW_acted_646 rfl 4 rfl ?_
    refine g_aload_n (pc := 647) d_LW_acted_647 rfl 5 rfl ?_
    refine g_th0 (pc := 648) d_LW_acted_648 fl_LW_30 HL ?_
    refine g_iconst (pc := 651) (v := 2) d_LW_acted_651 (by decide) ?_
    refine g_thl (pc := 652) (j := 2) d_LW_acted_652 HL (by decide) ?_
    refine g_top (y := nI m2) rfl ?_
    refine g_callV (k := 50) (n := 672) (pc := 653) (kz := 11) (nz := 156) (ci := 0) (As := [.int _]) d_LW_acted_653 rfl mv_HS_setFee st_LW_acted_286 rfl rfl (by decide) (W4.law (L' := (sC (sC L (u1 L.1 5 (nI m1))) (u1 (sC L (u1 L.1 5 (nI m1))).1 2 (nI m2))))).kx rfl rfl (Nat.le_of_ble_eq_true rfl) (wm_HS_setFee (W4.law (L' := (sC (sC L (u1 L.1 5 (nI m1))) (u1 (sC L (u1 L.1 5 (nI m1))).1 2 (nI m2))))) p1.2.1 (show nI 0 ≤ nI m2 from (nI_leI9 (by decide) (by omega)).mpr (by omega)) (show nI m2 ≤ nI 99 from (nI_leI9 (by omega) (by decide)).mpr (by omega))) (fun _ _ z => z.elim) (fun v h5 hv => ?_)
    obtain ⟨rfl, γ5, W5, f5⟩ := hv
    refine g_top (y := L.1 2) (show B.1 2 = L.1 2 from (J.1 2 (by decide)).symm) ?_
    refine g_h W5.eq.symm ?_
    refine g_iload (pc := 656) d_LW_acted_656 0 rfl ?_
    refine g_icmp_ne (pc := 658) (tgt := 665) d_LW_acted_658 (by decide) (fun c_658 => ?_) (fun c_658 => ?_)
    · exact absurd rfl c_658
    · skip
      refine g_iconst (pc := 661) (v := 1) d_LW_acted_661 (by decide) ?_
      refine g_goto (pc := 662) (tgt := 666) d_LW_acted_662 (by decide) ?_
      refine g_zret (pc := 666) d_LW_acted_666 rfl rfl ?_
      exact ⟨rfl, γ5, m1, _, _, W5.law (L' := (sC (sC L (u1 L.1 5 (nI m1))) (u1 (sC L (u1 L.1 5 (nI m1))).1 2 (nI m2)))), (PB_fee p1).mono (by omega)⟩
set_option maxRecDepth 20000 in
theorem lp_ac3 {E : En} {A : Nat → Nat} {n nw sc ni T : Nat} : ∀ (d m T9 : Nat) (h : Hp) (γ : Nat → Nat) (L B : Bu), m < d → WS h A γ n nw sc L B → PB nw sc ni T9 L B → T9 + (m + 1) ≤ T + 6 → T ≤ 90000 → G E m_LW_acted 678 [(14, .int (nI m)), (0, .ref (A 22)), (1, .ref (A 23))] [] h (12 * (m + 1)) (164 * (m + 1)) (AcP A n nw sc T) noX := by
  intro d
  induction d with
  | zero => intros; omega
  | succ d ih =>
    intro m T9 h γ L B hm W p hT9 hT
    refine G.mono (k := 12 * m + 12) (n := 164 * m + 164) (by omega) (by omega) ?_
    refine g_iload (pc := 678) d_LW_acted_678 0 rfl ?_
    refine g_if_lt (pc := 680) (tgt := 699) d_LW_acted_680 (by decide) (fun c_680 => ?_) (fun c_680 => ?_)
    · exact absurd c_680 (nI_pos (by omega))
    · skip
      refine g_aload_n (pc := 683) d_LW_acted_683 rfl 1 rfl ?_
      refine g_aload_n (pc := 684) d_LW_acted_684 rfl 2 rfl ?_
      refine g_callS (k := 12 * m) (n := 164 * m) (pc := 685) (As := [.ref _, .ref _]) d_LW_acted_685 rfl ms_LW_day st_LW_acted_289 rfl rfl (Nat.le_of_ble_eq_true rfl) (cl_LW_day W p (by omega)) (fun _ _ z => z.elim) (fun v h4 hv => ?_)
      obtain ⟨rfl, γ4, W4⟩ := hv
      refine g_if_ne (pc := 688) (tgt := 693) d_LW_acted_688 (by decide) (fun c_688 => ?_) (fun c_688 => ?_)
      · skip
        obtain ⟨x_1, hx_1⟩ : ∃ y : Int32, y = (nI m) + (-1) := ⟨_, rfl⟩
        refine g_iinc (pc := 693) (w := 0) (v := x_1) (lv' := [(14, .int x_1), (0, .ref (A 22)), (1, .ref (A 23))]) d_LW_acted_693 rfl (by rw [hx_1]; rfl) (by decide) rfl ?_
        refine g_goto (pc := 696) (tgt := 678) d_LW_acted_696 (by decide) ?_
        cases m with
        | zero =>
          subst hx_1
          refine g_iload (pc := 678) d_LW_acted_678 0 rfl ?_
          refine g_if_lt (pc := 680) (tgt := 699) d_LW_acted_680 (by decide) (fun c_680 => ?_) (fun c_680 => ?_)
          · skip
            refine g_iconst (pc := 699) (v := 1) d_LW_acted_699 (by decide) ?_
            refine g_zret (pc := 700) d_LW_acted_700 rfl rfl ?_
            exact ⟨rfl, γ4, ni, _, _, W4, (PB_day p (by omega)).1.mono (by omega)⟩
          · exact absurd (show nI 0 + -1 < 0 by decide) c_680
        | succ m =>
          obtain rfl : x_1 = nI m := by rw [hx_1]; exact nI_dn9 (by omega)
          refine g_perm [0, 1, 2] rfl ?_
          exact ih m (T9 + 1) h4 γ4 _ _ (by omega) W4 (PB_day p (by omega)).1 (by omega) hT
      · exact absurd c_688 (by decide)
set_option maxRecDepth 20000 in
theorem la_667 {E : En} {h : Hp} {A γ : Nat → Nat} {n nw sc ni T i k9 : Nat} {L B : Bu} (hE : (eL E).stackTraces = false) (hX : eXl E < 2 ^ 31) (W : WS h A γ n nw sc L B) (p : PB nw sc ni T L B) (hT : T ≤ 90000) (hi : i < sc) (hk9 : k9 < 900) : G E m_LW_acted 667 [(5, .ref (tw h (A 23) i)), (4, .int (nI i)), (0, .ref (A 22)), (1, .ref (A 23)), (2, .ref (eXa E)), (3, .int (nI k9))] [] (wT h (A 23) sc L) 72 984 (AcP A n nw sc T) noX := by
  have HL := W.ok
  have s8 := HL.s8
  have W9 := W.law (L' := L)
  obtain ⟨J, hG, hz, -⟩ := id p
  obtain ⟨m1, hm1, hp1⟩ := cl_LW_pick (E := E) (k := k9 + 2) (n := 6) hX (by omega) (by decide) (by decide)
  refine g_aload_n (pc := 667) d_LW_acted_667 rfl 4 rfl ?_
  refine g_iload_n (pc := 668) d_LW_acted_668 rfl 5 rfl ?_
  refine g_iconst (pc := 669) (v := 2) d_LW_acted_669 (by decide) ?_
  refine g_iadd (pc := 670) d_LW_acted_670 ?_
  refine g_top (y := nI (k9 + 2)) (nI_add k9 2) ?_
  refine g_bipush (pc := 671) (v := 6) d_LW_acted_671 (by decide) ?_
  refine g_top (y := nI 6) rfl ?_
  refine g_cS1 (pc := 673) (As := [.ref _, .int _, .int _]) d_LW_acted_673 rfl ms_LW_pick st_LW_acted_34 rfl rfl (Nat.le_of_ble_eq_true rfl) (hp1 _) ?_
  refine g_istore (pc := 676) (lv' := [(14, .int (nI m1)), (5, .ref (tw h (A 23) i)), (4, .int (nI i)), (0, .ref (A 22)), (1, .ref (A 23)), (2, .ref (eXa E)), (3, .int (nI k9))]) d_LW_acted_676 (by decide) rfl ?_
  refine g_perm [0, 3, 4] rfl ?_
  refine g_h W.eq ?_
  exact G.mono (by omega) (by omega) (lp_ac3 (ni := ni) (m1 + 1) m1 T h γ L B (by omega) W p (by omega) hT)
set_option maxRecDepth 20000 in
theorem cl_LW_acted {E : En} {h : Hp} {A γ : Nat → Nat} {n nw sc ni T k9 : Nat} {L B : Bu} (hE : (eL E).stackTraces = false) (hX : eXl E < 2 ^ 31) (W : WS h A γ n nw sc L B) (p : PB nw sc ni T L B) (hT : T ≤ 90000) (hk9 : k9 < 900) : CT E m_LW_acted [.ref (A 22), .ref (A 23), .ref (eXa E), .int (nI k9)] h 72 984 (AcP A n nw sc T) noX := by
  refine ct_of rfl (by decide +kernel) (Nat.le_of_ble_eq_true rfl) ?_
  show G E m_LW_acted 0 [(0, .ref (A 22)), (1, .ref (A 23)), (2, .ref (eXa E)), (3, .int (nI k9))] [] h 72 984 _ noX
  have HL := W.ok
  have s8 := HL.s8
  obtain ⟨i, hi, hp1⟩ := cl_LW_pick (E := E) (k := k9 + 1) (n := sc) hX (by omega) (by omega) (by omega)
  obtain ⟨q, hq, hp2⟩ := cl_LW_pick (E := E) (k := k9) (n := 13) hX (by omega) (by omega) (by omega)
  refine g_h W.eq.symm ?_
  refine g_aload_n (pc := 0) d_LW_acted_0 rfl 2 rfl ?_
  refine g_iload_n (pc := 1) d_LW_acted_1 rfl 3 rfl ?_
  refine g_iconst (pc := 2) (v := 1) d_LW_acted_2 (by decide) ?_
  refine g_iadd (pc := 3) d_LW_acted_3 ?_
  refine g_top (y := nI (k9 + 1)) (nI_add k9 1) ?_
  refine g_aload_n (pc := 4) d_LW_acted_4 rfl 1 rfl ?_
  refine g_th2 (pc := 5) d_LW_acted_5 fl_LW_45 HL ?_
  refine g_tsn (pc := 8) d_LW_acted_8 HL ?_
  refine g_cS1 (pc := 9) (As := [.ref _, .int _, .int _]) d_LW_acted_9 rfl ms_LW_pick st_LW_acted_34 rfl rfl (Nat.le_of_ble_eq_true rfl) (hp1 _) ?_
  refine g_istore (pc := 12) (lv' := [(4, .int (nI i)), (0, .ref (A 22)), (1, .ref (A 23)), (2, .ref (eXa E)), (3, .int (nI k9))]) d_LW_acted_12 (by decide) rfl ?_
  refine g_aload_n (pc := 14) d_LW_acted_14 rfl 2 rfl ?_
  refine g_th2 (pc := 15) d_LW_acted_15 fl_LW_45 HL ?_
  refine g_iload (pc := 18) d_LW_acted_18 0 rfl ?_
  refine g_tsl (pc := 20) (i := i) d_LW_acted_20 HL (by first | assumption | omega) ?_
  refine g_astore (pc := 21) (lv' := [(5, .ref (tw h (A 23) i)), (4, .int (nI i)), (0, .ref (A 22)), (1, .ref (A 23)), (2, .ref (eXa E)), (3, .int (nI k9))]) d_LW_acted_21 (by decide) rfl ?_
  refine g_aload_n (pc := 23) d_LW_acted_23 rfl 4 rfl ?_
  refine g_iload_n (pc := 24) d_LW_acted_24 rfl 5 rfl ?_
  refine g_bipush (pc := 25) (v := 13) d_LW_acted_25 (by decide) ?_
  refine g_top (y := nI 13) rfl ?_
  refine g_cS1 (pc := 27) (As := [.ref _, .int _, .int _]) d_LW_acted_27 rfl ms_LW_pick st_LW_acted_34 rfl rfl (Nat.le_of_ble_eq_true rfl) (hp2 _) ?_
  have hq9 : q = 0 ∨ q = 1 ∨ q = 2 ∨ q = 3 ∨ q = 4 ∨ q = 5 ∨ q = 6 ∨ q = 7 ∨ q = 8 ∨ q = 9 ∨ q = 10 ∨ q = 11 ∨ q = 12 := by omega
  clear hq hp2
  rcases hq9 with rfl | rfl | rfl | rfl | rfl | rfl | rfl | rfl | rfl | rfl | rfl | rfl | rfl
  · skip
    refine g_top (y := 0) rfl ?_
    refine g_tableIn (pc := 30) (tgt := 76) d_LW_acted_30 (by decide) (by decide) rfl (by decide) ?_
    refine g_perm [0, 1, 2, 3, 4, 5] rfl ?_
    exact la_76 hE hX W p hT hi hk9
  · skip
    refine g_top (y := 1) rfl ?_
    refine g_tableIn (pc := 30) (tgt := 76) d_LW_acted_30 (by decide) (by decide) rfl (by decide) ?_
    refine g_perm [0, 1, 2, 3, 4, 5] rfl ?_
    exact la_76 hE hX W p hT hi hk9
  · skip
    refine g_top (y := 2) rfl ?_
    refine g_tableIn (pc := 30) (tgt := 224) d_LW_acted_30 (by decide) (by decide) rfl (by decide) ?_
    refine g_perm [0, 1, 2, 3, 4, 5] rfl ?_
    exact la_224 hE hX W p hT hi hk9
  · skip
    refine g_top (y := 3) rfl ?_
    refine g_tableIn (pc := 30) (tgt := 332) d_LW_acted_30 (by decide) (by decide) rfl (by decide) ?_
    refine g_perm [0, 1, 2, 3, 4, 5] rfl ?_
    exact la_332 hE hX W p hT hi hk9
  · skip
    refine g_top (y := 4) rfl ?_
    refine g_tableIn (pc := 30) (tgt := 375) d_LW_acted_30 (by decide) (by decide) rfl (by decide) ?_
    refine g_perm [0, 1, 2, 3, 4, 5] rfl ?_
    exact la_375 hE hX W p hT hi hk9
  · skip
    refine g_top (y := 5) rfl ?_
    refine g_tableIn (pc := 30) (tgt := 427) d_LW_acted_30 (by decide) (by decide) rfl (by decide) ?_
    refine g_perm [0, 1, 2, 3, 4, 5] rfl ?_
    exact la_427 hE hX W p hT hi hk9
  · skip
    refine g_top (y := 6) rfl ?_
    refine g_tableIn (pc := 30) (tgt := 427) d_LW_acted_30 (by decide) (by decide) rfl (by decide) ?_
    refine g_perm [0, 1, 2, 3, 4, 5] rfl ?_
    exact la_427 hE hX W p hT hi hk9
  · skip
    refine g_top (y := 7) rfl ?_
    refine g_tableIn (pc := 30) (tgt := 586) d_LW_acted_30 (by decide) (by decide) rfl (by decide) ?_
    refine g_perm [0, 1, 2, 3, 4, 5] rfl ?_
    exact la_586 hE hX W p hT hi hk9
  · skip
    refine g_top (y := 8) rfl ?_
    refine g_tableOut (pc := 30) (tgt := 667) d_LW_acted_30 (by decide) (by decide) ?_
    refine g_perm [0, 1, 2, 3, 4, 5] rfl ?_
    exact la_667 hE hX W p hT hi hk9
  · skip
    refine g_top (y := 9) rfl ?_
    refine g_tableOut (pc := 30) (tgt := 667) d_LW_acted_30 (by decide) (by decide) ?_
    refine g_perm [0, 1, 2, 3, 4, 5] rfl ?_
    exact la_667 hE hX W p hT hi hk9
  · skip
    refine g_top (y := 10) rfl ?_
    refine g_tableOut (pc := 30) (tgt := 667) d_LW_acted_30 (by decide) (by decide) ?_
    refine g_perm [0, 1, 2, 3, 4, 5] rfl ?_
    exact la_667 hE hX W p hT hi hk9
  · skip
    refine g_top (y := 11) rfl ?_
    refine g_tableOut (pc := 30) (tgt := 667) d_LW_acted_30 (by decide) (by decide) ?_
    refine g_perm [0, 1, 2, 3, 4, 5] rfl ?_
    exact la_667 hE hX W p hT hi hk9
  · skip
    refine g_top (y := 12) rfl ?_
    refine g_tableOut (pc := 30) (tgt := 667) d_LW_acted_30 (by decide) (by decide) ?_
    refine g_perm [0, 1, 2, 3, 4, 5] rfl ?_
    exact la_667 hE hX W p hT hi hk9
