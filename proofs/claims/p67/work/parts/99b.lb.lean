/-! THE LAW: begun, its shops -/
set_option maxRecDepth 40000 in
theorem lp_bg3b {E : En} {h H : Hp} {A γ : Nat → Nat} {V0 : Bu} {nw sc a x lb t q R S : Nat} {pk : Nat → Nat → Nat} (pp : Pk pk) (hpk : ∀ k n, k < 1000 → 0 < n → n < 10000 → ∀ h, CR E m_LW_pick [.ref (eXa E), .int (nI k), .int (nI n)] h (some (.int (nI (pk k n)))) h) (hn : 1 ≤ nw ∧ nw ≤ 4) (hs : 1 ≤ sc ∧ sc ≤ 6) (hq : q < sc) (B : BG h A γ V0 nw sc nw q (hwP pk) (fun j => nI (gsP pk j)) (tvP pk)) (sv : SvL E h a (tC (hsP pk) (gsP pk) (rsP pk) nw q)) (hx : A 22 = x) (hlb : A 23 = lb) (ht : hK h t = 0) (e1 : Ext h H) (kt : hK H t = 10) (vt : ∀ f, f < 15 → f ≠ 6 → f ≠ 7 → hI H t f = tvP pk q f)
    (kk : ∀ h3 A3 γ3 a3, BG h3 A3 γ3 V0 nw sc nw (q + 1) (hwP pk) (fun j => nI (gsP pk j)) (tvP pk) → SvL E h3 a3 (tC (hsP pk) (gsP pk) (rsP pk) nw (q + 1)) → TxA h3 A3 a3 (tC (hsP pk) (gsP pk) (rsP pk) nw (q + 1)) → A3 22 = x → A3 23 = lb → G E m_LW_begun 308 [(4, .int (nI (q + 1))), (3, .ref a3), (0, .ref x), (1, .ref (eXa E)), (2, .ref lb)] [] h3 R S (BgP x) noX) : G E m_LW_begun 465 [(5, .ref t), (4, .int (nI q)), (3, .ref a), (0, .ref x), (1, .ref (eXa E)), (2, .ref lb)] [.int (nI (rsP pk q 6)), .ref t] H (R + 24) (S + 14500) (BgP x) noX := by
  have rb := Rb_P pp (i := q) (by omega)
  have hl := tC_l (hs := hsP pk) (gs := gsP pk) (rs := rsP pk) (fun k hk => ((Hb_P pp hn hs).1 k hk).2.2) hn.2 (fun k hk => by
    have := gs_b pp (j := k) (by omega)
    omega) (fun k hk => Rb_P pp (i := k) (by omega)) q (by omega)
  obtain ⟨r0, r1, r2, r3, r4, r5, r6, r7⟩ := id rb
  have d0 := dl3 r0
  have d1 := dl3 r1
  have d2 := dl2 r2
  have d3 := dl2 r3
  have d4 := dl4 r4
  have d5 := dl2 r5
  have d6 := dl2 r6
  have d7 := dl1 r7
  refine g_putI (pc := 465) (ci := 9) (f := 6) rfl d_LW_begun_465 fl_LW_90 (fun q hq => by cases hq; exact rfl) rfl rfl (by decide) (by exact kt) ?_
  refine g_aload (pc := 468) d_LW_begun_468 0 rfl ?_
  refine g_aload_n (pc := 470) d_LW_begun_470 rfl 4 rfl ?_
  refine g_bipush (pc := 471) (v := 61) d_LW_begun_471 (by decide) ?_
  refine g_iload (pc := 473) d_LW_begun_473 1 rfl ?_
  refine g_iadd (pc := 475) d_LW_begun_475 ?_
  refine g_bipush (pc := 476) (v := 9) d_LW_begun_476 (by decide) ?_
  refine g_top (y := nI 9) rfl ?_
  refine g_top2 (y := nI (61 + q)) (nI_add 61 q) ?_
  refine g_cS1 (pc := 478) (As := [.ref _, .int _, .int _]) d_LW_begun_478 rfl ms_LW_pick st_LW_begun_34 rfl rfl (Nat.le_of_ble_eq_true rfl) (hpk (61 + q) 9 (by omega) (by decide) (by decide) _) ?_
  refine g_putI (pc := 481) (ci := 9) (f := 7) rfl d_LW_begun_481 fl_LW_93 (fun q hq => by cases hq; exact rfl) rfl rfl (by decide) (by exact kt) ?_
  have e2 : Ext h (sI (sI H t 6 (nI (rsP pk q 6))) t 7 (nI (pk (61 + q) 9))) := (e1.sI ht).sI ht
  have kt2 : hK (sI (sI H t 6 (nI (rsP pk q 6))) t 7 (nI (pk (61 + q) 9))) t = 10 := kt
  have vt1 : ∀ f, f < 15 → hI (sI (sI H t 6 (nI (rsP pk q 6))) t 7 (nI (pk (61 + q) 9))) t f = tvP pk q f := fun f hf => by
    rw [hI_sI]
    by_cases f7 : f = 7
    · rw [if_pos ⟨rfl, f7⟩, f7]; rfl
    · rw [if_neg (fun z => f7 z.2), hI_sI]
      by_cases f6 : f = 6
      · rw [if_pos ⟨rfl, f6⟩, f6]; rfl
      · rw [if_neg (fun z => f6 z.2)]; exact vt f hf f6 f7
  revert e2 kt2 vt1
  generalize sI (sI H t 6 (nI (rsP pk q 6))) t 7 (nI (pk (61 + q) 9)) = h1
  intro e2 kt2 vt1
  have B1 := B.ext e2
  obtain ⟨k_lb, r_lb_0, r_lb_1, r_lb_2⟩ := B1.k23
  rw [hlb] at k_lb r_lb_0 r_lb_1 r_lb_2
  refine g_aload_n (pc := 484) d_LW_begun_484 rfl 5 rfl ?_
  refine g_getR (pc := 485) (ci := 7) (f := 2) (b := (A 26)) rfl r_lb_2 d_LW_begun_485 fl_LW_45 (by decide) k_lb ?_
  refine g_iload (pc := 488) d_LW_begun_488 1 rfl ?_
  refine g_aload (pc := 490) d_LW_begun_490 0 rfl ?_
  refine g_aastoreT (pc := 492) d_LW_begun_492 ⟨rfl, rfl⟩ B1.k26.1 kt2 (vp_in_nI (by rw [B1.k26.2]; exact hq) (by rw [B1.k26.2]; omega)) ?_
  rw [nI_clamp (show q < 2 ^ 31 by omega)]
  have B2 := B.t e2 ht kt2 vt1
  have k_t2 : hK (sR h1 (A 26) q (some t)) t = 10 := kt2
  have vt2 : ∀ f, f < 15 → hI (sR h1 (A 26) q (some t)) t f = tvP pk q f := vt1
  have sv2 : SvL E (sR h1 (A 26) q (some t)) a (tC (hsP pk) (gsP pk) (rsP pk) nw q) := (sv.ext e2).sR (by rw [B1.k26.1]; decide)
  have hx2 : u1 A (27 + q) t 22 = x := by rw [u1_ne (by omega)]; exact hx
  have hlb2 : u1 A (27 + q) t 23 = lb := by rw [u1_ne (by omega)]; exact hlb
  clear B1 k_lb r_lb_0 r_lb_1 r_lb_2
  revert B2 k_t2 vt2 sv2 hx2 hlb2
  generalize sR h1 (A 26) q (some t) = h2
  generalize u1 A (27 + q) t = A2
  intro B2 k_t2 vt2 sv2 hx2 hlb2
  refine G.mono (k := (R + 23) + 1) (n := (S + 14490) + cNf 8) (by omega) (by
    have : cNf 8 ≤ 10 := by decide
    omega) ?_
  refine g_new (pc := 493) (ci := 8) d_LW_begun_493 cl_LW_begun_51 (by decide) (fun so hso => ?_)
  refine g_dup (pc := 496) d_LW_begun_496 rfl ?_
  refine g_callI (k := R + 22) (n := S + 14474) (kz := 1) (nz := 16) (pc := 497) (As := []) (b := so) d_LW_begun_497 rfl mi_SB_init st_LW_begun_53 rfl rfl (Nat.le_of_ble_eq_true rfl) (cq_SB_init hso) (fun _ _ z => z.elim) (fun v hb z => ?_)
  obtain ⟨rfl, ex0, y0⟩ := z
  have Y : SbY h2 hb so ([] : List Int32) ([] : List Int32).length := SbY.nil ex0 y0
  refine g_aload_n (pc := 500) d_LW_begun_500 rfl 2 rfl ?_
  refine g_callV (k := R + 21) (n := S + 13774) (kz := 1) (nz := 700) (pc := 501) (ci := 8) (As := [.ref _]) d_LW_begun_501 rfl mv_SB_appendS st_LW_begun_54 rfl rfl (by decide) (SbY.kd Y) rfl rfl (Nat.le_of_ble_eq_true rfl) (cq_SB_appendS Y sv2 (by simp only [List.length_append, List.length_nil, ln4, ln6, ln7, dg_len]; omega)) (fun _ _ z => z.elim) (fun v hb z => ?_)
  obtain ⟨rfl, Y⟩ := z
  refine g_ldcs (pc := 504) d_LW_begun_504 8 rfl ?_
  refine g_callV (k := R + 20) (n := S + 13074) (kz := 1) (nz := 700) (pc := 506) (ci := 8) (As := [.ref _]) d_LW_begun_506 rfl mv_SB_appendS st_LW_begun_54 rfl rfl (by decide) (SbY.kd Y) rfl rfl (Nat.le_of_ble_eq_true rfl) (cq_SB_appendS Y (SvL.con (i := 7) (by decide)) (by simp only [List.length_append, List.length_nil, ln4, ln6, ln7, dg_len]; omega)) (fun _ _ z => z.elim) (fun v hb z => ?_)
  obtain ⟨rfl, Y⟩ := z
  refine g_aload (pc := 509) d_LW_begun_509 0 rfl ?_
  refine g_getI (pc := 511) (ci := 9) (f := 0) rfl d_LW_begun_511 fl_LW_71 (by decide) (by exact (Y.1 t (by rw [k_t2]; decide)).2.2.2.1.trans k_t2) ?_
  refine g_top (y := nI (rsP pk q 0)) (by rw [(Y.1 t (by rw [k_t2]; decide)).1, vt2 0 (by decide)]; rfl) ?_
  refine g_callV (k := R + 19) (n := S + 12374) (kz := 1) (nz := 700) (pc := 514) (ci := 8) (As := [.int _]) d_LW_begun_514 rfl mv_SB_appendI st_LW_begun_59 rfl rfl (by decide) (SbY.kd Y) rfl rfl (Nat.le_of_ble_eq_true rfl) (cq_SB_appendI (w := (rsP pk q 0)) Y (by have := rb; unfold Rb at this; omega) (by simp only [List.length_append, List.length_nil, ln4, ln6, ln7, dg_len]; omega)) (fun _ _ z => z.elim) (fun v hb z => ?_)
  obtain ⟨rfl, Y⟩ := z
  refine g_ldcs (pc := 517) d_LW_begun_517 5 rfl ?_
  refine g_callV (k := R + 18) (n := S + 11674) (kz := 1) (nz := 700) (pc := 519) (ci := 8) (As := [.ref _]) d_LW_begun_519 rfl mv_SB_appendS st_LW_begun_54 rfl rfl (by decide) (SbY.kd Y) rfl rfl (Nat.le_of_ble_eq_true rfl) (cq_SB_appendS Y (SvL.con (i := 4) (by decide)) (by simp only [List.length_append, List.length_nil, ln4, ln6, ln7, dg_len]; omega)) (fun _ _ z => z.elim) (fun v hb z => ?_)
  obtain ⟨rfl, Y⟩ := z
  refine g_aload (pc := 522) d_LW_begun_522 0 rfl ?_
  refine g_getI (pc := 524) (ci := 9) (f := 1) rfl d_LW_begun_524 fl_LW_75 (by decide) (by exact (Y.1 t (by rw [k_t2]; decide)).2.2.2.1.trans k_t2) ?_
  refine g_sipush (pc := 527) (v := 500) d_LW_begun_527 (by decide) ?_
  refine g_iadd (pc := 530) d_LW_begun_530 ?_
  refine g_top (y := nI (rsP pk q 1)) (by
    rw [(Y.1 t (by rw [k_t2]; decide)).1, vt2 1 (by decide)]
    show nI (pk (19 + q) 60) - 30 + 500 = nI (pk (19 + q) 60 + 470)
    rw [← nI_add, show nI 470 = (470 : Int32) from rfl]
    grind) ?_
  refine g_callV (k := R + 17) (n := S + 10974) (kz := 1) (nz := 700) (pc := 531) (ci := 8) (As := [.int _]) d_LW_begun_531 rfl mv_SB_appendI st_LW_begun_59 rfl rfl (by decide) (SbY.kd Y) rfl rfl (Nat.le_of_ble_eq_true rfl) (cq_SB_appendI (w := (rsP pk q 1)) Y (by have := rb; unfold Rb at this; omega) (by simp only [List.length_append, List.length_nil, ln4, ln6, ln7, dg_len]; omega)) (fun _ _ z => z.elim) (fun v hb z => ?_)
  obtain ⟨rfl, Y⟩ := z
  refine g_ldcs (pc := 534) d_LW_begun_534 5 rfl ?_
  refine g_callV (k := R + 16) (n := S + 10274) (kz := 1) (nz := 700) (pc := 536) (ci := 8) (As := [.ref _]) d_LW_begun_536 rfl mv_SB_appendS st_LW_begun_54 rfl rfl (by decide) (SbY.kd Y) rfl rfl (Nat.le_of_ble_eq_true rfl) (cq_SB_appendS Y (SvL.con (i := 4) (by decide)) (by simp only [List.length_append, List.length_nil, ln4, ln6, ln7, dg_len]; omega)) (fun _ _ z => z.elim) (fun v hb z => ?_)
  obtain ⟨rfl, Y⟩ := z
  refine g_aload (pc := 539) d_LW_begun_539 0 rfl ?_
  refine g_getI (pc := 541) (ci := 9) (f := 2) rfl d_LW_begun_541 fl_LW_78 (by decide) (by exact (Y.1 t (by rw [k_t2]; decide)).2.2.2.1.trans k_t2) ?_
  refine g_bipush (pc := 544) (v := 50) d_LW_begun_544 (by decide) ?_
  refine g_iadd (pc := 546) d_LW_begun_546 ?_
  refine g_top (y := nI (rsP pk q 2)) (by
    rw [(Y.1 t (by rw [k_t2]; decide)).1, vt2 2 (by decide)]
    show nI (pk (25 + q) 41) - 20 + 50 = nI (pk (25 + q) 41 + 30)
    rw [← nI_add, show nI 30 = (30 : Int32) from rfl]
    grind) ?_
  refine g_callV (k := R + 15) (n := S + 9574) (kz := 1) (nz := 700) (pc := 547) (ci := 8) (As := [.int _]) d_LW_begun_547 rfl mv_SB_appendI st_LW_begun_59 rfl rfl (by decide) (SbY.kd Y) rfl rfl (Nat.le_of_ble_eq_true rfl) (cq_SB_appendI (w := (rsP pk q 2)) Y (by have := rb; unfold Rb at this; omega) (by simp only [List.length_append, List.length_nil, ln4, ln6, ln7, dg_len]; omega)) (fun _ _ z => z.elim) (fun v hb z => ?_)
  obtain ⟨rfl, Y⟩ := z
  refine g_ldcs (pc := 550) d_LW_begun_550 5 rfl ?_
  refine g_callV (k := R + 14) (n := S + 8874) (kz := 1) (nz := 700) (pc := 552) (ci := 8) (As := [.ref _]) d_LW_begun_552 rfl mv_SB_appendS st_LW_begun_54 rfl rfl (by decide) (SbY.kd Y) rfl rfl (Nat.le_of_ble_eq_true rfl) (cq_SB_appendS Y (SvL.con (i := 4) (by decide)) (by simp only [List.length_append, List.length_nil, ln4, ln6, ln7, dg_len]; omega)) (fun _ _ z => z.elim) (fun v hb z => ?_)
  obtain ⟨rfl, Y⟩ := z
  refine g_aload (pc := 555) d_LW_begun_555 0 rfl ?_
  refine g_getI (pc := 557) (ci := 9) (f := 3) rfl d_LW_begun_557 fl_LW_81 (by decide) (by exact (Y.1 t (by rw [k_t2]; decide)).2.2.2.1.trans k_t2) ?_
  refine g_iconst (pc := 560) (v := 5) d_LW_begun_560 (by decide) ?_
  refine g_iadd (pc := 561) d_LW_begun_561 ?_
  refine g_top (y := nI (rsP pk q 3)) (by
    rw [(Y.1 t (by rw [k_t2]; decide)).1, vt2 3 (by decide)]
    show nI (pk (31 + q) 11) - 5 + 5 = nI (pk (31 + q) 11)
    grind) ?_
  refine g_callV (k := R + 13) (n := S + 8174) (kz := 1) (nz := 700) (pc := 562) (ci := 8) (As := [.int _]) d_LW_begun_562 rfl mv_SB_appendI st_LW_begun_59 rfl rfl (by decide) (SbY.kd Y) rfl rfl (Nat.le_of_ble_eq_true rfl) (cq_SB_appendI (w := (rsP pk q 3)) Y (by have := rb; unfold Rb at this; omega) (by simp only [List.length_append, List.length_nil, ln4, ln6, ln7, dg_len]; omega)) (fun _ _ z => z.elim) (fun v hb z => ?_)
  obtain ⟨rfl, Y⟩ := z
  refine g_ldcs (pc := 565) d_LW_begun_565 5 rfl ?_
  refine g_callV (k := R + 12) (n := S + 7474) (kz := 1) (nz := 700) (pc := 567) (ci := 8) (As := [.ref _]) d_LW_begun_567 rfl mv_SB_appendS st_LW_begun_54 rfl rfl (by decide) (SbY.kd Y) rfl rfl (Nat.le_of_ble_eq_true rfl) (cq_SB_appendS Y (SvL.con (i := 4) (by decide)) (by simp only [List.length_append, List.length_nil, ln4, ln6, ln7, dg_len]; omega)) (fun _ _ z => z.elim) (fun v hb z => ?_)
  obtain ⟨rfl, Y⟩ := z
  refine g_aload (pc := 570) d_LW_begun_570 0 rfl ?_
  refine g_getI (pc := 572) (ci := 9) (f := 4) rfl d_LW_begun_572 fl_LW_84 (by decide) (by exact (Y.1 t (by rw [k_t2]; decide)).2.2.2.1.trans k_t2) ?_
  refine g_top (y := nI (rsP pk q 4)) (by rw [(Y.1 t (by rw [k_t2]; decide)).1, vt2 4 (by decide)]; rfl) ?_
  refine g_callV (k := R + 11) (n := S + 6774) (kz := 1) (nz := 700) (pc := 575) (ci := 8) (As := [.int _]) d_LW_begun_575 rfl mv_SB_appendI st_LW_begun_59 rfl rfl (by decide) (SbY.kd Y) rfl rfl (Nat.le_of_ble_eq_true rfl) (cq_SB_appendI (w := (rsP pk q 4)) Y (by have := rb; unfold Rb at this; omega) (by simp only [List.length_append, List.length_nil, ln4, ln6, ln7, dg_len]; omega)) (fun _ _ z => z.elim) (fun v hb z => ?_)
  obtain ⟨rfl, Y⟩ := z
  refine g_ldcs (pc := 578) d_LW_begun_578 5 rfl ?_
  refine g_callV (k := R + 10) (n := S + 6074) (kz := 1) (nz := 700) (pc := 580) (ci := 8) (As := [.ref _]) d_LW_begun_580 rfl mv_SB_appendS st_LW_begun_54 rfl rfl (by decide) (SbY.kd Y) rfl rfl (Nat.le_of_ble_eq_true rfl) (cq_SB_appendS Y (SvL.con (i := 4) (by decide)) (by simp only [List.length_append, List.length_nil, ln4, ln6, ln7, dg_len]; omega)) (fun _ _ z => z.elim) (fun v hb z => ?_)
  obtain ⟨rfl, Y⟩ := z
  refine g_aload (pc := 583) d_LW_begun_583 0 rfl ?_
  refine g_getI (pc := 585) (ci := 9) (f := 5) rfl d_LW_begun_585 fl_LW_87 (by decide) (by exact (Y.1 t (by rw [k_t2]; decide)).2.2.2.1.trans k_t2) ?_
  refine g_top (y := nI (rsP pk q 5)) (by rw [(Y.1 t (by rw [k_t2]; decide)).1, vt2 5 (by decide)]; rfl) ?_
  refine g_callV (k := R + 9) (n := S + 5374) (kz := 1) (nz := 700) (pc := 588) (ci := 8) (As := [.int _]) d_LW_begun_588 rfl mv_SB_appendI st_LW_begun_59 rfl rfl (by decide) (SbY.kd Y) rfl rfl (Nat.le_of_ble_eq_true rfl) (cq_SB_appendI (w := (rsP pk q 5)) Y (by have := rb; unfold Rb at this; omega) (by simp only [List.length_append, List.length_nil, ln4, ln6, ln7, dg_len]; omega)) (fun _ _ z => z.elim) (fun v hb z => ?_)
  obtain ⟨rfl, Y⟩ := z
  refine g_ldcs (pc := 591) d_LW_begun_591 5 rfl ?_
  refine g_callV (k := R + 8) (n := S + 4674) (kz := 1) (nz := 700) (pc := 593) (ci := 8) (As := [.ref _]) d_LW_begun_593 rfl mv_SB_appendS st_LW_begun_54 rfl rfl (by decide) (SbY.kd Y) rfl rfl (Nat.le_of_ble_eq_true rfl) (cq_SB_appendS Y (SvL.con (i := 4) (by decide)) (by simp only [List.length_append, List.length_nil, ln4, ln6, ln7, dg_len]; omega)) (fun _ _ z => z.elim) (fun v hb z => ?_)
  obtain ⟨rfl, Y⟩ := z
  refine g_aload (pc := 596) d_LW_begun_596 0 rfl ?_
  refine g_getI (pc := 598) (ci := 9) (f := 6) rfl d_LW_begun_598 fl_LW_90 (by decide) (by exact (Y.1 t (by rw [k_t2]; decide)).2.2.2.1.trans k_t2) ?_
  refine g_top (y := nI (rsP pk q 6)) (by rw [(Y.1 t (by rw [k_t2]; decide)).1, vt2 6 (by decide)]; rfl) ?_
  refine g_callV (k := R + 7) (n := S + 3974) (kz := 1) (nz := 700) (pc := 601) (ci := 8) (As := [.int _]) d_LW_begun_601 rfl mv_SB_appendI st_LW_begun_59 rfl rfl (by decide) (SbY.kd Y) rfl rfl (Nat.le_of_ble_eq_true rfl) (cq_SB_appendI (w := (rsP pk q 6)) Y (by have := rb; unfold Rb at this; omega) (by simp only [List.length_append, List.length_nil, ln4, ln6, ln7, dg_len]; omega)) (fun _ _ z => z.elim) (fun v hb z => ?_)
  obtain ⟨rfl, Y⟩ := z
  refine g_ldcs (pc := 604) d_LW_begun_604 5 rfl ?_
  refine g_callV (k := R + 6) (n := S + 3274) (kz := 1) (nz := 700) (pc := 606) (ci := 8) (As := [.ref _]) d_LW_begun_606 rfl mv_SB_appendS st_LW_begun_54 rfl rfl (by decide) (SbY.kd Y) rfl rfl (Nat.le_of_ble_eq_true rfl) (cq_SB_appendS Y (SvL.con (i := 4) (by decide)) (by simp only [List.length_append, List.length_nil, ln4, ln6, ln7, dg_len]; omega)) (fun _ _ z => z.elim) (fun v hb z => ?_)
  obtain ⟨rfl, Y⟩ := z
  refine g_aload (pc := 609) d_LW_begun_609 0 rfl ?_
  refine g_getI (pc := 611) (ci := 9) (f := 7) rfl d_LW_begun_611 fl_LW_93 (by decide) (by exact (Y.1 t (by rw [k_t2]; decide)).2.2.2.1.trans k_t2) ?_
  refine g_top (y := nI (rsP pk q 7)) (by rw [(Y.1 t (by rw [k_t2]; decide)).1, vt2 7 (by decide)]; rfl) ?_
  refine g_callV (k := R + 5) (n := S + 2574) (kz := 1) (nz := 700) (pc := 614) (ci := 8) (As := [.int _]) d_LW_begun_614 rfl mv_SB_appendI st_LW_begun_59 rfl rfl (by decide) (SbY.kd Y) rfl rfl (Nat.le_of_ble_eq_true rfl) (cq_SB_appendI (w := (rsP pk q 7)) Y (by have := rb; unfold Rb at this; omega) (by simp only [List.length_append, List.length_nil, ln4, ln6, ln7, dg_len]; omega)) (fun _ _ z => z.elim) (fun v hb z => ?_)
  obtain ⟨rfl, Y⟩ := z
  refine g_ldcs (pc := 617) d_LW_begun_617 7 rfl ?_
  refine g_callV (k := R + 4) (n := S + 1874) (kz := 1) (nz := 700) (pc := 619) (ci := 8) (As := [.ref _]) d_LW_begun_619 rfl mv_SB_appendS st_LW_begun_54 rfl rfl (by decide) (SbY.kd Y) rfl rfl (Nat.le_of_ble_eq_true rfl) (cq_SB_appendS Y (SvL.con (i := 6) (by decide)) (by simp only [List.length_append, List.length_nil, ln4, ln6, ln7, dg_len]; omega)) (fun _ _ z => z.elim) (fun v hb z => ?_)
  obtain ⟨rfl, Y⟩ := z
  refine g_callV (k := R + 2) (n := S + 1570) (kz := 2) (nz := 304) (pc := 622) (ci := 8) (As := []) d_LW_begun_622 rfl mv_SB_toString st_LW_begun_62 rfl rfl (by decide) (SbY.kd Y) rfl rfl (Nat.le_of_ble_eq_true rfl) (cq_SB_toString Y (by simp only [List.length_append, List.length_nil, ln4, ln6, ln7, dg_len]; omega)) (fun _ _ z => z.elim) (fun v h9 z => ?_)
  obtain ⟨a9, rfl, ha9, ex9, sv9, nw9⟩ := z
  have E9 : Ext h2 h9 := Y.1.trans ex9
  have el : ((((((((((((((((((([] : List Int32) ++ (tC (hsP pk) (gsP pk) (rsP pk) nw q)) ++ strB.getD 7 []) ++ dgF (rsP pk q 0) (dgL (rsP pk q 0))) ++ strB.getD 4 []) ++ dgF (rsP pk q 1) (dgL (rsP pk q 1))) ++ strB.getD 4 []) ++ dgF (rsP pk q 2) (dgL (rsP pk q 2))) ++ strB.getD 4 []) ++ dgF (rsP pk q 3) (dgL (rsP pk q 3))) ++ strB.getD 4 []) ++ dgF (rsP pk q 4) (dgL (rsP pk q 4))) ++ strB.getD 4 []) ++ dgF (rsP pk q 5) (dgL (rsP pk q 5))) ++ strB.getD 4 []) ++ dgF (rsP pk q 6) (dgL (rsP pk q 6))) ++ strB.getD 4 []) ++ dgF (rsP pk q 7) (dgL (rsP pk q 7))) ++ strB.getD 6 []) = (tC (hsP pk) (gsP pk) (rsP pk) nw (q + 1)) := by rw [tC_s, List.nil_append]
  rw [el] at sv9 nw9
  have tx9 := nw9.tx (B2.ext Y.1).cs
  have B9 := B2.ext E9
  refine g_astore_n (pc := 625) (lv' := [(3, .ref a9), (5, .ref t), (4, .int (nI q)), (0, .ref x), (1, .ref (eXa E)), (2, .ref lb)]) d_LW_begun_625 rfl (by decide) rfl ?_
  obtain ⟨x_1, hx_1⟩ : ∃ y : Int32, y = (nI q) + 1 := ⟨_, rfl⟩
  refine g_iinc (pc := 626) (w := 2) (v := x_1) (lv' := [(4, .int x_1), (3, .ref a9), (5, .ref t), (0, .ref x), (1, .ref (eXa E)), (2, .ref lb)]) d_LW_begun_626 rfl (by rw [hx_1]; rfl) (by decide) rfl ?_
  refine g_goto (pc := 629) (tgt := 308) d_LW_begun_629 (by decide) ?_
  obtain rfl : x_1 = nI (q + 1) := by rw [hx_1]; exact nI_1 _
  refine g_perm [0, 1, 3, 4, 5] rfl ?_
  exact G.mono (by omega) (by omega) (kk h9 A2 _ a9 B9 sv9 tx9 hx2 hlb2)
set_option maxRecDepth 40000 in
theorem lp_bg3 {E : En} {V0 : Bu} {nw sc nw0 sc0 ni0 U0 x lb : Nat} {pk : Nat → Nat → Nat} (pp : Pk pk) (hpk : ∀ k n, k < 1000 → 0 < n → n < 10000 → ∀ h, CR E m_LW_pick [.ref (eXa E), .int (nI k), .int (nI n)] h (some (.int (nI (pk k n)))) h) (hV : Gd V0 nw0 sc0 ni0 U0) (hn : 1 ≤ nw ∧ nw ≤ 4) (hs : 1 ≤ sc ∧ sc ≤ 6) : ∀ (d q : Nat) (h : Hp) (A γ : Nat → Nat) (a : Nat), q ≤ sc → sc - q < d → BG h A γ V0 nw sc nw q (hwP pk) (fun j => nI (gsP pk j)) (tvP pk) → SvL E h a (tC (hsP pk) (gsP pk) (rsP pk) nw q) → (0 < q → TxA h A a (tC (hsP pk) (gsP pk) (rsP pk) nw q)) → A 22 = x → A 23 = lb → G E m_LW_begun 308 [(4, .int (nI q)), (3, .ref a), (0, .ref x), (1, .ref (eXa E)), (2, .ref lb)] [] h (100 + 25 * (sc - q)) (1000 + 15000 * (sc - q)) (BgP x) noX := by
  intro d
  induction d with
  | zero => intros; omega
  | succ d ih =>
    intro q h A γ a hq hd B sv tx hx hlb
    obtain ⟨k_lb, r_lb_0, r_lb_1, r_lb_2⟩ := B.k23
    rw [hlb] at k_lb r_lb_0 r_lb_1 r_lb_2
    refine g_iload (pc := 308) d_LW_begun_308 0 rfl ?_
    refine g_aload_n (pc := 310) d_LW_begun_310 rfl 4 rfl ?_
    refine g_getR (pc := 311) (ci := 7) (f := 2) (b := (A 26)) rfl r_lb_2 d_LW_begun_311 fl_LW_45 (by decide) k_lb ?_
    refine g_alenT B.k26.1 B.k26.2 (pc := 314) d_LW_begun_314 ?_
    refine g_icmp_ge (pc := 315) (tgt := 632) d_LW_begun_315 (by decide) (fun c_315 => ?_) (fun c_315 => ?_)
    · skip
      have eq9 : q = sc := by have := (nI_leI9 (a := sc) (b := q) (by omega) (by omega)).mp c_315; omega
      subst eq9
      refine g_perm [1, 2, 4] rfl ?_
      subst hx
      subst hlb
      exact G.mono (by omega) (by omega) (lp_bg9 pp hpk hV hn hs B (tx (by omega)) sv.2.1)
    · skip
      have hq9 : q < sc := Nat.lt_of_not_le (fun z => c_315 ((nI_leI9 (by omega) (by omega)).mpr z))
      refine G.mono (k := (100 + 25 * (sc - (q + 1)) + 24) + 1) (n := (1000 + 15000 * (sc - (q + 1)) + 14500) + cNf 9) (by omega) (by
        have : cNf 9 ≤ 20 := by decide
        omega) ?_
      refine g_new (pc := 318) (ci := 9) d_LW_begun_318 cl_LW_begun_43 (by decide) (fun t ht => ?_)
      have kt : hK (hNew h t 10 0) t = 10 := by show u1 (hK h) t 10 t = 10; rw [u1_same]
      refine g_dup (pc := 321) d_LW_begun_321 rfl ?_
      refine g_callIN (kz := 0) (nz := 0) (pc := 322) (As := []) (b := t) d_LW_begun_322 rfl mi_TW_init st_LW_begun_70 rfl rfl (Nat.le_of_ble_eq_true rfl) (cl_TW_init kt) (fun _ _ z => z.elim) (fun v h1 z => ?_)
      obtain ⟨rfl, rfl⟩ := z
      refine g_astore (pc := 325) (lv' := [(5, .ref t), (4, .int (nI q)), (3, .ref a), (0, .ref x), (1, .ref (eXa E)), (2, .ref lb)]) d_LW_begun_325 (by decide) rfl ?_
      refine g_aload (pc := 327) d_LW_begun_327 0 rfl ?_
      refine g_aload_n (pc := 329) d_LW_begun_329 rfl 4 rfl ?_
      refine g_bipush (pc := 330) (v := 13) d_LW_begun_330 (by decide) ?_
      refine g_iload (pc := 332) d_LW_begun_332 1 rfl ?_
      refine g_iadd (pc := 334) d_LW_begun_334 ?_
      refine g_sipush (pc := 335) (v := 200) d_LW_begun_335 (by decide) ?_
      refine g_top (y := nI 200) rfl ?_
      refine g_top2 (y := nI (13 + q)) (nI_add 13 q) ?_
      refine g_cS1 (pc := 338) (As := [.ref _, .int _, .int _]) d_LW_begun_338 rfl ms_LW_pick st_LW_begun_34 rfl rfl (Nat.le_of_ble_eq_true rfl) (hpk (13 + q) 200 (by omega) (by decide) (by decide) _) ?_
      refine g_putI (pc := 341) (ci := 9) (f := 0) rfl d_LW_begun_341 fl_LW_71 (fun q hq => by cases hq; exact rfl) rfl rfl (by decide) (by exact kt) ?_
      refine g_aload (pc := 344) d_LW_begun_344 0 rfl ?_
      refine g_aload_n (pc := 346) d_LW_begun_346 rfl 4 rfl ?_
      refine g_bipush (pc := 347) (v := 19) d_LW_begun_347 (by decide) ?_
      refine g_iload (pc := 349) d_LW_begun_349 1 rfl ?_
      refine g_iadd (pc := 351) d_LW_begun_351 ?_
      refine g_bipush (pc := 352) (v := 60) d_LW_begun_352 (by decide) ?_
      refine g_top (y := nI 60) rfl ?_
      refine g_top2 (y := nI (19 + q)) (nI_add 19 q) ?_
      refine g_cS1 (pc := 354) (As := [.ref _, .int _, .int _]) d_LW_begun_354 rfl ms_LW_pick st_LW_begun_34 rfl rfl (Nat.le_of_ble_eq_true rfl) (hpk (19 + q) 60 (by omega) (by decide) (by decide) _) ?_
      refine g_bipush (pc := 357) (v := 30) d_LW_begun_357 (by decide) ?_
      refine g_isub (pc := 359) d_LW_begun_359 ?_
      refine g_putI (pc := 360) (ci := 9) (f := 1) rfl d_LW_begun_360 fl_LW_75 (fun q hq => by cases hq; exact rfl) rfl rfl (by decide) (by exact kt) ?_
      refine g_aload (pc := 363) d_LW_begun_363 0 rfl ?_
      refine g_aload_n (pc := 365) d_LW_begun_365 rfl 4 rfl ?_
      refine g_bipush (pc := 366) (v := 25) d_LW_begun_366 (by decide) ?_
      refine g_iload (pc := 368) d_LW_begun_368 1 rfl ?_
      refine g_iadd (pc := 370) d_LW_begun_370 ?_
      refine g_bipush (pc := 371) (v := 41) d_LW_begun_371 (by decide) ?_
      refine g_top (y := nI 41) rfl ?_
      refine g_top2 (y := nI (25 + q)) (nI_add 25 q) ?_
      refine g_cS1 (pc := 373) (As := [.ref _, .int _, .int _]) d_LW_begun_373 rfl ms_LW_pick st_LW_begun_34 rfl rfl (Nat.le_of_ble_eq_true rfl) (hpk (25 + q) 41 (by omega) (by decide) (by decide) _) ?_
      refine g_bipush (pc := 376) (v := 20) d_LW_begun_376 (by decide) ?_
      refine g_isub (pc := 378) d_LW_begun_378 ?_
      refine g_putI (pc := 379) (ci := 9) (f := 2) rfl d_LW_begun_379 fl_LW_78 (fun q hq => by cases hq; exact rfl) rfl rfl (by decide) (by exact kt) ?_
      refine g_aload (pc := 382) d_LW_begun_382 0 rfl ?_
      refine g_aload_n (pc := 384) d_LW_begun_384 rfl 4 rfl ?_
      refine g_bipush (pc := 385) (v := 31) d_LW_begun_385 (by decide) ?_
      refine g_iload (pc := 387) d_LW_begun_387 1 rfl ?_
      refine g_iadd (pc := 389) d_LW_begun_389 ?_
      refine g_bipush (pc := 390) (v := 11) d_LW_begun_390 (by decide) ?_
      refine g_top (y := nI 11) rfl ?_
      refine g_top2 (y := nI (31 + q)) (nI_add 31 q) ?_
      refine g_cS1 (pc := 392) (As := [.ref _, .int _, .int _]) d_LW_begun_392 rfl ms_LW_pick st_LW_begun_34 rfl rfl (Nat.le_of_ble_eq_true rfl) (hpk (31 + q) 11 (by omega) (by decide) (by decide) _) ?_
      refine g_iconst (pc := 395) (v := 5) d_LW_begun_395 (by decide) ?_
      refine g_isub (pc := 396) d_LW_begun_396 ?_
      refine g_putI (pc := 397) (ci := 9) (f := 3) rfl d_LW_begun_397 fl_LW_81 (fun q hq => by cases hq; exact rfl) rfl rfl (by decide) (by exact kt) ?_
      refine g_aload (pc := 400) d_LW_begun_400 0 rfl ?_
      refine g_iconst (pc := 402) (v := 1) d_LW_begun_402 (by decide) ?_
      refine g_aload_n (pc := 403) d_LW_begun_403 rfl 4 rfl ?_
      refine g_bipush (pc := 404) (v := 37) d_LW_begun_404 (by decide) ?_
      refine g_iload (pc := 406) d_LW_begun_406 1 rfl ?_
      refine g_iadd (pc := 408) d_LW_begun_408 ?_
      refine g_sipush (pc := 409) (v := 1500) d_LW_begun_409 (by decide) ?_
      refine g_top (y := nI 1500) rfl ?_
      refine g_top2 (y := nI (37 + q)) (nI_add 37 q) ?_
      refine g_cS1 (pc := 412) (As := [.ref _, .int _, .int _]) d_LW_begun_412 rfl ms_LW_pick st_LW_begun_34 rfl rfl (Nat.le_of_ble_eq_true rfl) (hpk (37 + q) 1500 (by omega) (by decide) (by decide) _) ?_
      refine g_iadd (pc := 415) d_LW_begun_415 ?_
      refine g_top (y := nI (1 + pk (37 + q) 1500)) (nI_add 1 _) ?_
      refine g_putI (pc := 416) (ci := 9) (f := 4) rfl d_LW_begun_416 fl_LW_84 (fun q hq => by cases hq; exact rfl) rfl rfl (by decide) (by exact kt) ?_
      refine g_aload (pc := 419) d_LW_begun_419 0 rfl ?_
      refine g_aload_n (pc := 421) d_LW_begun_421 rfl 4 rfl ?_
      refine g_bipush (pc := 422) (v := 43) d_LW_begun_422 (by decide) ?_
      refine g_iload (pc := 424) d_LW_begun_424 1 rfl ?_
      refine g_iadd (pc := 426) d_LW_begun_426 ?_
      refine g_bipush (pc := 427) (v := 30) d_LW_begun_427 (by decide) ?_
      refine g_top (y := nI 30) rfl ?_
      refine g_top2 (y := nI (43 + q)) (nI_add 43 q) ?_
      refine g_cS1 (pc := 429) (As := [.ref _, .int _, .int _]) d_LW_begun_429 rfl ms_LW_pick st_LW_begun_34 rfl rfl (Nat.le_of_ble_eq_true rfl) (hpk (43 + q) 30 (by omega) (by decide) (by decide) _) ?_
      refine g_putI (pc := 432) (ci := 9) (f := 5) rfl d_LW_begun_432 fl_LW_87 (fun q hq => by cases hq; exact rfl) rfl rfl (by decide) (by exact kt) ?_
      refine g_aload (pc := 435) d_LW_begun_435 0 rfl ?_
      refine g_aload_n (pc := 437) d_LW_begun_437 rfl 4 rfl ?_
      refine g_bipush (pc := 438) (v := 49) d_LW_begun_438 (by decide) ?_
      refine g_iload (pc := 440) d_LW_begun_440 1 rfl ?_
      refine g_iadd (pc := 442) d_LW_begun_442 ?_
      refine g_iconst (pc := 443) (v := 3) d_LW_begun_443 (by decide) ?_
      refine g_top (y := nI 3) rfl ?_
      refine g_top2 (y := nI (49 + q)) (nI_add 49 q) ?_
      refine g_cS1 (pc := 444) (As := [.ref _, .int _, .int _]) d_LW_begun_444 rfl ms_LW_pick st_LW_begun_34 rfl rfl (Nat.le_of_ble_eq_true rfl) (hpk (49 + q) 3 (by omega) (by decide) (by decide) _) ?_
      refine g_if_ne (pc := 447) (tgt := 454) d_LW_begun_447 (by decide) (fun c_447 => ?_) (fun c_447 => ?_)
      · skip
        refine g_aload_n (pc := 454) d_LW_begun_454 rfl 4 rfl ?_
        refine g_bipush (pc := 455) (v := 55) d_LW_begun_455 (by decide) ?_
        refine g_iload (pc := 457) d_LW_begun_457 1 rfl ?_
        refine g_iadd (pc := 459) d_LW_begun_459 ?_
        refine g_bipush (pc := 460) (v := 60) d_LW_begun_460 (by decide) ?_
        refine g_top (y := nI 60) rfl ?_
        refine g_top2 (y := nI (55 + q)) (nI_add 55 q) ?_
        refine g_cS1 (pc := 462) (As := [.ref _, .int _, .int _]) d_LW_begun_462 rfl ms_LW_pick st_LW_begun_34 rfl rfl (Nat.le_of_ble_eq_true rfl) (hpk (55 + q) 60 (by omega) (by decide) (by decide) _) ?_
        refine g_top (y := nI (rsP pk q 6)) (by
          have b49 := pp (49 + q) 3 (by omega) (by decide) (by decide)
          first
          | (show nI (pk (55 + q) 60) = nI (if pk (49 + q) 3 = 0 then 0 else pk (55 + q) 60); rw [if_neg (fun z => c_447 (by rw [z]; rfl))])
          | (show (0 : Int32) = nI (if pk (49 + q) 3 = 0 then 0 else pk (55 + q) 60); rw [if_pos (nI_inj (by omega) (by decide) c_447)]; rfl)) ?_
        refine g_perm [0, 1, 2, 3, 4, 5] rfl ?_
        refine lp_bg3b pp hpk hn hs hq9 B sv hx hlb ht ?_ kt (fun f hf f6 f7 => ?_) (fun h3 A3 γ3 a3 B3 s3 t3 x3 l3 => ih (q + 1) h3 A3 γ3 a3 (by omega) (by omega) B3 s3 (fun _ => t3) x3 l3)
        · repeat (first | exact Ext.r.new ht | refine Ext.sI ?_ ht)
        · have hxx : f = 0 ∨ f = 1 ∨ f = 2 ∨ f = 3 ∨ f = 4 ∨ f = 5 ∨ f = 6 ∨ f = 7 ∨ f = 8 ∨ f = 9 ∨ f = 10 ∨ f = 11 ∨ f = 12 ∨ f = 13 ∨ f = 14 := by omega
          rcases hxx with rfl | rfl | rfl | rfl | rfl | rfl | rfl | rfl | rfl | rfl | rfl | rfl | rfl | rfl | rfl
          all_goals first | exact absurd rfl f6 | exact absurd rfl f7 | simp [hI_sI, hI_new, tvP, rsP]
      · skip
        refine g_iconst (pc := 450) (v := 0) d_LW_begun_450 (by decide) ?_
        refine g_goto (pc := 451) (tgt := 465) d_LW_begun_451 (by decide) ?_
        refine g_top (y := nI (rsP pk q 6)) (by
          have b49 := pp (49 + q) 3 (by omega) (by decide) (by decide)
          first
          | (show nI (pk (55 + q) 60) = nI (if pk (49 + q) 3 = 0 then 0 else pk (55 + q) 60); rw [if_neg (fun z => c_447 (by rw [z]; rfl))])
          | (show (0 : Int32) = nI (if pk (49 + q) 3 = 0 then 0 else pk (55 + q) 60); rw [if_pos (nI_inj (by omega) (by decide) c_447)]; rfl)) ?_
        refine g_perm [0, 1, 2, 3, 4, 5] rfl ?_
        refine lp_bg3b pp hpk hn hs hq9 B sv hx hlb ht ?_ kt (fun f hf f6 f7 => ?_) (fun h3 A3 γ3 a3 B3 s3 t3 x3 l3 => ih (q + 1) h3 A3 γ3 a3 (by omega) (by omega) B3 s3 (fun _ => t3) x3 l3)
        · repeat (first | exact Ext.r.new ht | refine Ext.sI ?_ ht)
        · have hxx : f = 0 ∨ f = 1 ∨ f = 2 ∨ f = 3 ∨ f = 4 ∨ f = 5 ∨ f = 6 ∨ f = 7 ∨ f = 8 ∨ f = 9 ∨ f = 10 ∨ f = 11 ∨ f = 12 ∨ f = 13 ∨ f = 14 := by omega
          rcases hxx with rfl | rfl | rfl | rfl | rfl | rfl | rfl | rfl | rfl | rfl | rfl | rfl | rfl | rfl | rfl
          all_goals first | exact absurd rfl f6 | exact absurd rfl f7 | simp [hI_sI, hI_new, tvP, rsP]
