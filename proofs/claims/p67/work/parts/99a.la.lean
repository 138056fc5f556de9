/-! THE LAW: begun, its end -/
def BgP (x : Nat) (v : Option Value) (h9 : Hp) : Prop := ∃ A γ n nw sc ni L B, A 22 = x ∧ v = some (.ref (A 23)) ∧ WS h9 A γ n nw sc L B ∧ PB nw sc ni 0 L B
theorem BG.ci {h h1 : Hp} {A γ : Nat → Nat} {V0 : Bu} {nw sc p q n : Nat} {hw gw : Nat → Int32} {tv : Nat → Nat → Int32} (B : BG h A γ V0 nw sc p q hw gw tv) (f : Fi h h1 A) (hn : n = 27 + q) : (∃ k nx, CI h1 A k nx) ∧ Fm h h1 A n := by
  subst hn
  have F := B.cs.2.2.1
  obtain ⟨k, nx, ci⟩ := B.1.2.1
  have ne : ∀ i j, Ix (27 + q) i → Ix (27 + q) j → i ≠ j → A i ≠ A j := fun i j a b c => F.ne a b c
  refine ⟨⟨k, nx, ?_⟩, fun i hi h23 => ?_⟩
  · unfold CI
    rw [(f (A 12) (F.2 12 ⟨by decide, by omega⟩).1).1 (ne _ _ ⟨by decide, by omega⟩ ⟨by decide, by omega⟩ (by decide)) (ne _ _ ⟨by decide, by omega⟩ ⟨by decide, by omega⟩ (by decide))]
    exact ci
  · obtain ⟨f1, f2, f3, f4⟩ := f (A i) (F.2 i hi).1
    exact ⟨f1 (ne _ _ hi ⟨by decide, by omega⟩ (by omega)) (ne _ _ hi ⟨by decide, by omega⟩ (by omega)), f3, f4, f2⟩

set_option maxRecDepth 20000 in
theorem lp_bg9 {E : En} {h : Hp} {A γ : Nat → Nat} {V0 : Bu} {nw sc nw0 sc0 ni0 U0 a : Nat} {pk : Nat → Nat → Nat} (pp : Pk pk) (hpk : ∀ k n, k < 1000 → 0 < n → n < 10000 → ∀ h, CR E m_LW_pick [.ref (eXa E), .int (nI k), .int (nI n)] h (some (.int (nI (pk k n)))) h) (hV : Gd V0 nw0 sc0 ni0 U0) (hn : 1 ≤ nw ∧ nw ≤ 4) (hs : 1 ≤ sc ∧ sc ≤ 6) (B : BG h A γ V0 nw sc nw sc (hwP pk) (fun j => nI (gsP pk j)) (tvP pk)) (tx : TxA h A a (tC (hsP pk) (gsP pk) (rsP pk) nw sc)) (as : Asc (tC (hsP pk) (gsP pk) (rsP pk) nw sc).length (fun j => (tC (hsP pk) (gsP pk) (rsP pk) nw sc).getD j 0)) : G E m_LW_begun 632 [(3, .ref a), (0, .ref (A 22)), (2, .ref (A 23))] [] h 100 1000 (BgP (A 22)) noX := by
  have l9 : (tC (hsP pk) (gsP pk) (rsP pk) nw sc).length ≤ 300 := by
    have := tC_l (hs := hsP pk) (gs := gsP pk) (rs := rsP pk) (fun k hk => by
      have z := (Hb_P pp hn hs).1 k hk
      exact z.2.2) hn.2 (fun k hk => by have := gs_b pp (j := k) (by omega); omega) (fun k hk => Rb_P pp (i := k) (by omega)) sc (Nat.le_refl _)
    omega
  refine g_aload_n (pc := 632) d_LW_begun_632 rfl 1 rfl ?_
  refine g_aload_n (pc := 633) d_LW_begun_633 rfl 0 rfl ?_
  refine g_callS (k := 85) (n := 925) (pc := 634) (As := [.ref _, .ref _]) d_LW_begun_634 rfl ms_LW_input st_LW_begun_98 rfl rfl (Nat.le_of_ble_eq_true rfl) (cl_LW_input B.cs tx as l9 B.1.2.2.1) (fun _ _ z => z.elim) (fun v h1 z => ?_)
  obtain ⟨rfl, iv, i15, i16⟩ := z
  obtain ⟨⟨γ1, c1⟩, fi, bu1⟩ := iv
  obtain ⟨ci1, fm1⟩ := B.ci fi rfl
  obtain ⟨b0, b1, b2⟩ := B.1.2.2.2
  refine g_aload_n (pc := 637) d_LW_begun_637 rfl 1 rfl ?_
  refine g_callV (k := 74) (n := 769) (kz := 11) (nz := 156) (pc := 638) (ci := 0) (As := []) d_LW_begun_638 rfl mv_HS_loadSetup st_LW_begun_102 rfl rfl (by decide) c1.2.1.1.1 rfl rfl (Nat.le_of_ble_eq_true rfl) (wl_load (nw := nw) (sc := sc) (hs := hsP pk) (gs := gsP pk) (rs := rsP pk) (m := (tC (hsP pk) (gsP pk) (rsP pk) nw sc).length) c1 ci1 i15 (by omega) (by
    rw [← tC_all]
    refine ⟨Nat.zero_add _, fun j hj => ?_⟩
    rw [Nat.zero_add, i16 j hj]
    exact (cz_ok as j).2.1.symm) (Hb_P pp hn hs) (fun b hb => by
    obtain ⟨z1, z2⟩ := bu1 0 b0 (by decide) b1
    obtain rfl : b0 = b := Option.some.inj (z1.symm.trans hb)
    rw [z2, b2]
    exact hV)) (fun _ _ z => z.elim) (fun v h2 z => ?_)
  obtain ⟨rfl, γ2, C, Y, c2, ci2, hb2, fm2, cb⟩ := z
  obtain ⟨L, lv, al, l1, l2, l3, l4, l5⟩ := B.lv (by omega) (by omega) (fm1.t fm2)
  have W : WS h2 A γ2 (27 + sc) nw sc L (nB (P_copy nw sc Y C)) := ⟨Nat.le_refl _, c2, ci2, hb2, lv, al⟩
  have P0 := PB_0 (Y := Y) pp hn hs cb l1 l2 l3 l4 l5
  have HL := W.ok
  have W9 := W.law (L' := L)
  refine g_h W.eq.symm ?_
  refine g_aload_n (pc := 641) d_LW_begun_641 rfl 2 rfl ?_
  refine g_th2 (pc := 642) d_LW_begun_642 fl_LW_45 HL ?_
  refine g_tsn (pc := 645) d_LW_begun_645 HL ?_
  refine g_icmp_ne (pc := 646) (tgt := 684) d_LW_begun_646 (by decide) (fun c_646 => ?_) (fun c_646 => ?_)
  · exact absurd rfl c_646
  · skip
    refine g_aload_n (pc := 649) d_LW_begun_649 rfl 1 rfl ?_
    refine g_cV1 (pc := 650) (ci := 0) (As := []) d_LW_begun_650 rfl mv_HS_weightCount st_LW_begun_105 rfl rfl (by decide) rfl rfl (Nat.le_of_ble_eq_true rfl) W9.kx (wg_HS_weightCount W9 P0.2.1) ?_
    refine g_top (y := nI nw) P0.2.1.1.1 ?_
    refine g_aload_n (pc := 653) d_LW_begun_653 rfl 2 rfl ?_
    refine g_th1 (pc := 654) d_LW_begun_654 fl_LW_40 HL ?_
    refine g_twn (pc := 657) d_LW_begun_657 HL ?_
    refine g_icmp_ne (pc := 658) (tgt := 684) d_LW_begun_658 (by decide) (fun c_658 => ?_) (fun c_658 => ?_)
    · exact absurd rfl c_658
    · skip
      refine g_aload_n (pc := 661) d_LW_begun_661 rfl 1 rfl ?_
      refine g_cV1 (pc := 662) (ci := 0) (As := []) d_LW_begun_662 rfl mv_HS_day st_LW_begun_108 rfl rfl (by decide) rfl rfl (Nat.le_of_ble_eq_true rfl) W9.kx (wg_HS_day W9 P0.2.1) ?_
      refine g_top (y := 0) ((P0.1.1 9 (by decide)).symm.trans ((l1 7 (by decide)).trans rfl)) ?_
      refine g_if_ne (pc := 665) (tgt := 684) d_LW_begun_665 (by decide) (fun c_665 => ?_) (fun c_665 => ?_)
      · exact absurd rfl c_665
      · skip
        refine g_aload_n (pc := 668) d_LW_begun_668 rfl 1 rfl ?_
        refine g_cV1 (pc := 669) (ci := 0) (As := []) d_LW_begun_669 rfl mv_HS_openShops st_LW_begun_111 rfl rfl (by decide) rfl rfl (Nat.le_of_ble_eq_true rfl) W9.kx (wg_HS_openShops W9 P0.2.1) ?_
        refine g_top (y := nI sc) (congrArg nI (open_all sc (fun j hj => (P0.1.2.2 j hj 12 (by decide)).symm.trans ((l5 j hj 12 (by decide)).trans rfl)))) ?_
        refine g_aload_n (pc := 672) d_LW_begun_672 rfl 2 rfl ?_
        refine g_th2 (pc := 673) d_LW_begun_673 fl_LW_45 HL ?_
        refine g_tsn (pc := 676) d_LW_begun_676 HL ?_
        refine g_icmp_ne (pc := 677) (tgt := 684) d_LW_begun_677 (by decide) (fun c_677 => ?_) (fun c_677 => ?_)
        · exact absurd rfl c_677
        · skip
          refine g_aload_n (pc := 680) d_LW_begun_680 rfl 2 rfl ?_
          refine g_goto (pc := 681) (tgt := 685) d_LW_begun_681 (by decide) ?_
          refine g_aret (pc := 685) d_LW_begun_685 rfl (by first | exact Or.inl ⟨_, rfl⟩ | exact Or.inr ⟨_, rfl⟩) ?_
          exact ⟨A, γ2, 27 + sc, nw, sc, hsP pk 5, L, _, rfl, rfl, W9, P0⟩
