/-! THE HISTORY -/
def HiOk (h : Hp) (hy pp : Nat) : Prop := hK h hy = 7 ∧ hR h hy 0 = some pp ∧ hK h pp = 25 ∧ hL h pp = 8
def hyR (r : Nat → Int32) (nx cnt : Nat) : Nat → Int32 := if cnt < 8 then u1 (u1 r 2 (nI (if nx + 1 < 8 then nx + 1 else 0))) 1 (nI (cnt + 1)) else u1 r 2 (nI (if nx + 1 < 8 then nx + 1 else 0))
/-- a bureau in its slot, made if there was none -/
def Slot (h : Hp) (pp nx pk : Nat) (h2 : Hp) : Prop := (h2 = h ∧ hR h pp nx = some pk) ∨ (hR h pp nx = none ∧ ∃ h', NewB h pk h' ∧ h2 = sR h' pp nx (some pk))
/-- all that was there stays but the slots of pp -/
def Kp (pp : Nat) (h h2 : Hp) : Prop := ∀ q, hK h q ≠ 0 → hI h2 q = hI h q ∧ (q ≠ pp → hR h2 q = hR h q) ∧ hK h2 q = hK h q ∧ hL h2 q = hL h q
theorem Kp.r {pp : Nat} {h : Hp} : Kp pp h h := fun _ _ => ⟨rfl, fun _ => rfl, rfl, rfl⟩
theorem BuOk.kp {pp b : Nat} {h h2 : Hp} (hB : BuOk h b) (k : Kp pp h h2) (hp : hK h pp = 25) : BuOk h2 b ∧ rA h2 b 12 = rA h b 12 ∧ (∀ i, i < 8 → sh h2 b i = sh h b i) ∧ vB h2 b = vB h b := by
  obtain ⟨b1, b2, b3, b4, b5, b6, b7, b8, b9⟩ := id hB
  obtain ⟨kI, kR, kK, kL⟩ := k b (by omega)
  have eR := kR (fun z => by rw [z] at b1; omega)
  have e12 : rA h2 b 12 = rA h b 12 := by unfold rA; rw [eR]
  have e13 : rA h2 b 13 = rA h b 13 := by unfold rA; rw [eR]
  obtain ⟨wI, wR, wK, wL9⟩ := k (rA h b 12) (by omega)
  obtain ⟨sI, sR9, sK, sL⟩ := k (rA h b 13) (by omega)
  have eS := sR9 (fun z => by rw [z] at b6; omega)
  have es : ∀ i, sh h2 b i = sh h b i := fun i => by unfold sh; rw [e13]; unfold rA; rw [show hR h2 ((hR h b 13).getD 0) = hR h ((hR h b 13).getD 0) from eS]
  have eo : ∀ f, rOk h2 b f ↔ rOk h b f := fun f => by unfold rOk; rw [eR]
  have eq : ∀ i, rOk h2 (rA h b 13) i ↔ rOk h (rA h b 13) i := fun i => by unfold rOk; rw [eS]
  refine ⟨⟨by rw [kK]; exact b1, (eo 12).mpr b2, (eo 13).mpr b3, by rw [e12, wK]; exact b4, by rw [e12, wL9]; exact b5, by rw [e13, sK]; exact b6, by rw [e13, sL]; exact b7, fun i hi => ?_, fun i j hi hj e => b9 i j hi hj (by rw [← es, ← es]; exact e)⟩, e12, fun i _ => es i, ?_⟩
  · rw [e13, es]
    refine ⟨(eq i).mpr (b8 i hi).1, ?_⟩
    rw [(k (sh h b i) (by have := (b8 i hi).2; omega)).2.2.1]
    exact (b8 i hi).2
  · unfold vB
    refine Prod.ext kI (Prod.ext ?_ (funext fun i => ?_))
    · show hI h2 (rA h2 b 12) = hI h (rA h b 12)
      rw [e12, wI]
    · show (if i < 8 then hI h2 (sh h2 b i) else _) = if i < 8 then hI h (sh h b i) else _
      split
      · next hi => rw [es, (k (sh h b i) (by have := (b8 i hi).2; omega)).1]
      · rfl
theorem Slot.kp {h h2 : Hp} {pp nx pk : Nat} (s : Slot h pp nx pk h2) : Kp pp h h2 := by
  rcases s with ⟨rfl, -⟩ | ⟨-, h', n, rfl⟩
  · exact Kp.r
  · intro q hq
    obtain ⟨a1, a2, -, a4, a5⟩ := n.1 q hq
    refine ⟨a1, fun e => ?_, a4, a5⟩
    funext j
    rw [hR_sR, if_neg (fun z => e z.1)]
    exact congrFun a2 j
theorem Slot.nx {h h2 : Hp} {pp nx pk : Nat} (s : Slot h pp nx pk h2) : hR h2 pp nx = some pk := by
  rcases s with ⟨rfl, e⟩ | ⟨-, h', n, rfl⟩
  · exact e
  · rw [hR_sR, if_pos ⟨rfl, rfl⟩]
theorem Slot.ne {h h2 : Hp} {pp nx pk j : Nat} (s : Slot h pp nx pk h2) (hp : hK h pp ≠ 0) (hj : j ≠ nx) : hR h2 pp j = hR h pp j := by
  rcases s with ⟨rfl, e⟩ | ⟨-, h', n, rfl⟩
  · rfl
  · rw [hR_sR, if_neg (fun z => hj z.2)]
    exact congrFun (n.1 pp hp).2.1 j
/-- a bureau made just now shares nothing with an old one -/
theorem NewB.dis {h h1 : Hp} {b c : Nat} (n : NewB h b h1) (hC : BuOk h c) : Dis h1 b c := by
  obtain ⟨e, hB, ⟨f1, f2, f3, f4⟩, -⟩ := n
  obtain ⟨c1, c2, c3, c4, c5, c6, c7, c8, c9⟩ := id hC
  obtain ⟨-, eR, -, eK, -⟩ := e c (by omega)
  have e12 : rA h1 c 12 = rA h c 12 := by unfold rA; rw [eR]
  have e13 : rA h1 c 13 = rA h c 13 := by unfold rA; rw [eR]
  have es : ∀ i, sh h1 c i = sh h c i := fun i => by unfold sh; rw [e13]; unfold rA; rw [show hR h1 ((hR h c 13).getD 0) = hR h ((hR h c 13).getD 0) from (e (rA h c 13) (by omega)).2.1]
  refine ⟨fun z => by rw [z] at f1; omega, fun z => by rw [z, e12] at f2; omega, fun i j hi hj z => ?_⟩
  have := f4 i hi
  rw [z, es] at this
  have := (c8 j hj).2
  omega
theorem Dis.kp {h h2 : Hp} {pp b c : Nat} (d : Dis h b c) (k : Kp pp h h2) (hp : hK h pp = 25) (hB : BuOk h b) (hC : BuOk h c) : Dis h2 b c := by
  obtain ⟨-, b12, bs, -⟩ := hB.kp k hp
  obtain ⟨-, c12, cs, -⟩ := hC.kp k hp
  refine ⟨d.1, by rw [b12, c12]; exact d.2.1, fun i j hi hj => ?_⟩
  rw [bs i hi, cs j hj]
  exact d.2.2 i j hi hj
/-- the bureau in the slot and another one -/
theorem Slot.two {h h2 : Hp} {pp nx pk b : Nat} (s : Slot h pp nx pk h2) (hp : hK h pp = 25) (hB : BuOk h b) (hD : ∀ pk, hR h pp nx = some pk → BuOk h pk ∧ Dis h pk b) : BuOk h2 pk ∧ Dis h2 pk b := by
  have k := s.kp
  rcases s with ⟨rfl, e⟩ | ⟨-, h', n, rfl⟩
  · exact hD pk e
  · have k2 : Kp pp h' (sR h' pp nx (some pk)) := fun q _ => ⟨rfl, fun e => by funext j; rw [hR_sR, if_neg (fun z => e z.1)], rfl, rfl⟩
    have hp' : hK h' pp = 25 := by rw [(n.1 pp (by omega)).2.2.2.1]; exact hp
    have hB' : BuOk h' b := (hB.kp (pp := pp) (fun q hq => ⟨(n.1 q hq).1, fun _ => (n.1 q hq).2.1, (n.1 q hq).2.2.2.1, (n.1 q hq).2.2.2.2⟩) hp).1
    exact ⟨(n.2.1.kp k2 hp').1, (n.dis hB).kp k2 hp' n.2.1 hB'⟩
theorem Fo.kind {h : Hp} {b q : Nat} (hB : BuOk h b) (k5 : hK h q ≠ 5) (k20 : hK h q ≠ 20) (k6 : hK h q ≠ 6) : Fo h b q :=
  ⟨fun z => k5 (by rw [z]; exact hB.1), fun z => k20 (by rw [z]; exact hB.2.2.2.1), fun i hi z => k6 (by rw [z]; exact hB.sk hi)⟩
theorem d_HI_remember_0 : decode (mC m_HI_remember) 0 = .ok (.aload_n 0, 1) := by decide +kernel
theorem d_HI_remember_1 : decode (mC m_HI_remember) 1 = .ok (.getfield 11, 3) := by decide +kernel
theorem d_HI_remember_4 : decode (mC m_HI_remember) 4 = .ok (.aload_n 0, 1) := by decide +kernel
theorem d_HI_remember_5 : decode (mC m_HI_remember) 5 = .ok (.getfield 17, 3) := by decide +kernel
theorem d_HI_remember_8 : decode (mC m_HI_remember) 8 = .ok (.aaload, 1) := by decide +kernel
theorem d_HI_remember_9 : decode (mC m_HI_remember) 9 = .ok (.ifnonnull 19, 3) := by decide +kernel
theorem d_HI_remember_12 : decode (mC m_HI_remember) 12 = .ok (.aload_n 0, 1) := by decide +kernel
theorem d_HI_remember_13 : decode (mC m_HI_remember) 13 = .ok (.getfield 11, 3) := by decide +kernel
theorem d_HI_remember_16 : decode (mC m_HI_remember) 16 = .ok (.aload_n 0, 1) := by decide +kernel
theorem d_HI_remember_17 : decode (mC m_HI_remember) 17 = .ok (.getfield 17, 3) := by decide +kernel
theorem d_HI_remember_20 : decode (mC m_HI_remember) 20 = .ok (.new 9, 3) := by decide +kernel
theorem d_HI_remember_23 : decode (mC m_HI_remember) 23 = .ok (.dup, 1) := by decide +kernel
theorem d_HI_remember_24 : decode (mC m_HI_remember) 24 = .ok (.invokespecial 21, 3) := by decide +kernel
theorem d_HI_remember_27 : decode (mC m_HI_remember) 27 = .ok (.aastore, 1) := by decide +kernel
theorem d_HI_remember_28 : decode (mC m_HI_remember) 28 = .ok (.aload_n 0, 1) := by decide +kernel
theorem d_HI_remember_29 : decode (mC m_HI_remember) 29 = .ok (.getfield 11, 3) := by decide +kernel
theorem d_HI_remember_32 : decode (mC m_HI_remember) 32 = .ok (.aload_n 0, 1) := by decide +kernel
theorem d_HI_remember_33 : decode (mC m_HI_remember) 33 = .ok (.getfield 17, 3) := by decide +kernel
theorem d_HI_remember_36 : decode (mC m_HI_remember) 36 = .ok (.aaload, 1) := by decide +kernel
theorem d_HI_remember_37 : decode (mC m_HI_remember) 37 = .ok (.aload_n 1, 1) := by decide +kernel
theorem d_HI_remember_38 : decode (mC m_HI_remember) 38 = .ok (.invokevirtual 22, 3) := by decide +kernel
theorem d_HI_remember_41 : decode (mC m_HI_remember) 41 = .ok (.aload_n 0, 1) := by decide +kernel
theorem d_HI_remember_42 : decode (mC m_HI_remember) 42 = .ok (.aload_n 0, 1) := by decide +kernel
theorem d_HI_remember_43 : decode (mC m_HI_remember) 43 = .ok (.getfield 17, 3) := by decide +kernel
theorem d_HI_remember_46 : decode (mC m_HI_remember) 46 = .ok (.iconst 1, 1) := by decide +kernel
theorem d_HI_remember_47 : decode (mC m_HI_remember) 47 = .ok (.iadd, 1) := by decide +kernel
theorem d_HI_remember_48 : decode (mC m_HI_remember) 48 = .ok (.bipush 8, 2) := by decide +kernel
theorem d_HI_remember_50 : decode (mC m_HI_remember) 50 = .ok (.if_icmp .ge 12, 3) := by decide +kernel
theorem d_HI_remember_53 : decode (mC m_HI_remember) 53 = .ok (.aload_n 0, 1) := by decide +kernel
theorem d_HI_remember_54 : decode (mC m_HI_remember) 54 = .ok (.getfield 17, 3) := by decide +kernel
theorem d_HI_remember_57 : decode (mC m_HI_remember) 57 = .ok (.iconst 1, 1) := by decide +kernel
theorem d_HI_remember_58 : decode (mC m_HI_remember) 58 = .ok (.iadd, 1) := by decide +kernel
theorem d_HI_remember_59 : decode (mC m_HI_remember) 59 = .ok (.goto 4, 3) := by decide +kernel
theorem d_HI_remember_62 : decode (mC m_HI_remember) 62 = .ok (.iconst 0, 1) := by decide +kernel
theorem d_HI_remember_63 : decode (mC m_HI_remember) 63 = .ok (.putfield 17, 3) := by decide +kernel
theorem d_HI_remember_66 : decode (mC m_HI_remember) 66 = .ok (.aload_n 0, 1) := by decide +kernel
theorem d_HI_remember_67 : decode (mC m_HI_remember) 67 = .ok (.getfield 26, 3) := by decide +kernel
theorem d_HI_remember_70 : decode (mC m_HI_remember) 70 = .ok (.bipush 8, 2) := by decide +kernel
theorem d_HI_remember_72 : decode (mC m_HI_remember) 72 = .ok (.if_icmp .ge 13, 3) := by decide +kernel
theorem d_HI_remember_75 : decode (mC m_HI_remember) 75 = .ok (.aload_n 0, 1) := by decide +kernel
theorem d_HI_remember_76 : decode (mC m_HI_remember) 76 = .ok (.dup, 1) := by decide +kernel
theorem d_HI_remember_77 : decode (mC m_HI_remember) 77 = .ok (.getfield 26, 3) := by decide +kernel
theorem d_HI_remember_80 : decode (mC m_HI_remember) 80 = .ok (.iconst 1, 1) := by decide +kernel
theorem d_HI_remember_81 : decode (mC m_HI_remember) 81 = .ok (.iadd, 1) := by decide +kernel
theorem d_HI_remember_82 : decode (mC m_HI_remember) 82 = .ok (.putfield 26, 3) := by decide +kernel
theorem d_HI_remember_85 : decode (mC m_HI_remember) 85 = .ok (.return_, 1) := by decide +kernel
set_option maxRecDepth 20000 in
theorem lp_HI_remember {E : En} {h2 : Hp} {hy pp b nx cnt pk nw sc ni U k n : Nat} (hH : HiOk h2 hy pp) (r1 : hI h2 hy 1 = nI cnt) (r2 : hI h2 hy 2 = nI nx) (n8 : nx < 8) (c8 : cnt ≤ 8) (hB : BuOk h2 b) (hG : Gd (vB h2 b) nw sc ni U) (hs : hR h2 pp nx = some pk) (hP : BuOk h2 pk) (hD : Dis h2 pk b) {PP : Option Value → Hp → Prop} (hPP : PP none (sA (wB h2 pk (P_copy nw sc (vB h2 pk) (vB h2 b))) hy (hyR (hI h2 hy) nx cnt))) : G E m_HI_remember 28 [(0, .ref hy), (1, .ref b)] [] h2 k n (PP) noX := by
  obtain ⟨k_hy, r_hy_0, k_pp, l_pp⟩ := id hH
  obtain ⟨hw, hn, hs9, hm, h0, hni, n3, ⟨sd, hsd, hsx⟩, hop⟩ := id hG.1
  refine g_aload_n (pc := 28) d_HI_remember_28 rfl 0 rfl ?_
  refine g_getR (pc := 29) (ci := 6) (f := 0) (b := pp) rfl r_hy_0 d_HI_remember_29 fl_HI_11 (by decide) k_hy ?_
  refine g_aload_n (pc := 32) d_HI_remember_32 rfl 0 rfl ?_
  refine g_getIX (pc := 33) (ci := 6) (f := 2) (nI nx) rfl d_HI_remember_33 fl_HI_17 (by decide) k_hy r2 ?_
  refine g_aaloadX (pc := 36) (kd := 25) pk d_HI_remember_36 (Or.inl rfl) k_pp (by rw [l_pp]; exact n8) (by rw [l_pp]; decide) (rOk_of hs) (rA_of hs) ?_
  refine g_aload_n (pc := 37) d_HI_remember_37 rfl 1 rfl ?_
  refine g_h (h' := wB h2 pk (vB h2 pk)) wB_v.symm ?_
  refine g_cV0 (pc := 38) (ci := 4) (As := [.ref _]) d_HI_remember_38 rfl mv_BU_copyFrom st_HI_remember_22 rfl rfl (by decide) rfl rfl (Nat.le_of_ble_eq_true rfl) hP.1 (cb_copyFrom hP hB hD hw hn hs9 hm hop) ?_
  have fo : Fo h2 pk hy := Fo.kind hP (by omega) (by omega) (by omega)
  obtain ⟨C, hC⟩ : ∃ z, z = P_copy nw sc (vB h2 pk) (vB h2 b) := ⟨_, rfl⟩
  rw [← hC] at hPP ⊢
  obtain ⟨r, hr⟩ : ∃ z, z = hI h2 hy := ⟨_, rfl⟩
  rw [← hr] at r1 r2 hPP
  refine g_h (h' := wL (wB h2 pk C) [(hy, r)]) (by rw [wL_one, hr, ← hI_fo (B := C) fo, sA_self]) ?_
  have nd : ([(hy, r)].map Prod.fst).Nodup := List.nodup_cons.mpr ⟨List.not_mem_nil, List.nodup_nil⟩
  have hb : hK (wB h2 pk C) hy = 7 := k_hy
  refine g_aload_n (pc := 41) d_HI_remember_41 rfl 0 rfl ?_
  refine g_aload_n (pc := 42) d_HI_remember_42 rfl 0 rfl ?_
  refine g_lgI0 (pc := 43) (ci := 6) (f := 2) rfl d_HI_remember_43 fl_HI_17 (by decide) k_hy nd ?_
  refine g_top r2 ?_
  refine g_iconst (pc := 46) (v := 1) d_HI_remember_46 (by decide) ?_
  refine g_iadd (pc := 47) d_HI_remember_47 ?_
  refine g_top (y := nI (nx + 1)) (nI_1 nx) ?_
  refine g_bipush (pc := 48) (v := 8) d_HI_remember_48 (by decide) ?_
  refine g_icmp_ge (pc := 50) (tgt := 62) d_HI_remember_50 (by decide) (fun c_50 => ?_) (fun c_50 => ?_)
  · skip
    have e9 : ¬ nx + 1 < 8 := by have := (nI_leI (a := 8) (b := nx + 1) (by omega) (by omega)).mp c_50; omega
    refine g_iconst (pc := 62) (v := 0) d_HI_remember_62 (by decide) ?_
    refine g_lpI0 (pc := 63) (ci := 6) (f := 2) rfl d_HI_remember_63 fl_HI_17 (fun q hq => by cases hq; exact rfl) rfl rfl (by decide) k_hy nd ?_
    refine g_aload_n (pc := 66) d_HI_remember_66 rfl 0 rfl ?_
    refine g_lgI0 (pc := 67) (ci := 6) (f := 1) rfl d_HI_remember_67 fl_HI_26 (by decide) k_hy nd ?_
    refine g_top (y := nI cnt) ((u1_ne (by omega)).trans r1) ?_
    refine g_bipush (pc := 70) (v := 8) d_HI_remember_70 (by decide) ?_
    refine g_icmp_ge (pc := 72) (tgt := 85) d_HI_remember_72 (by decide) (fun c_72 => ?_) (fun c_72 => ?_)
    · skip
      have e7 : ¬ cnt < 8 := by have := (nI_leI (a := 8) (b := cnt) (by omega) (by omega)).mp c_72; omega
      refine g_vret (pc := 85) d_HI_remember_85 rfl ?_
      unfold hyR at hPP
      first
      | (rw [if_pos e7, if_neg e9] at hPP; exact hPP)
      | (rw [if_neg e7, if_neg e9] at hPP; exact hPP)
    · skip
      have e7 : cnt < 8 := by have := mt (nI_leI (a := 8) (b := cnt) (by omega) (by omega)).mpr c_72; omega
      refine g_aload_n (pc := 75) d_HI_remember_75 rfl 0 rfl ?_
      refine g_dup (pc := 76) d_HI_remember_76 rfl ?_
      refine g_lgI0 (pc := 77) (ci := 6) (f := 1) rfl d_HI_remember_77 fl_HI_26 (by decide) k_hy nd ?_
      refine g_top (y := nI cnt) ((u1_ne (by omega)).trans r1) ?_
      refine g_iconst (pc := 80) (v := 1) d_HI_remember_80 (by decide) ?_
      refine g_iadd (pc := 81) d_HI_remember_81 ?_
      refine g_top (y := nI (cnt + 1)) (nI_1 cnt) ?_
      refine g_lpI0 (pc := 82) (ci := 6) (f := 1) rfl d_HI_remember_82 fl_HI_26 (fun q hq => by cases hq; exact rfl) rfl rfl (by decide) k_hy nd ?_
      refine g_vret (pc := 85) d_HI_remember_85 rfl ?_
      unfold hyR at hPP
      first
      | (rw [if_pos e7, if_neg e9] at hPP; exact hPP)
      | (rw [if_neg e7, if_neg e9] at hPP; exact hPP)
  · skip
    have e9 : nx + 1 < 8 := by have := mt (nI_leI (a := 8) (b := nx + 1) (by omega) (by omega)).mpr c_50; omega
    refine g_aload_n (pc := 53) d_HI_remember_53 rfl 0 rfl ?_
    refine g_lgI0 (pc := 54) (ci := 6) (f := 2) rfl d_HI_remember_54 fl_HI_17 (by decide) k_hy nd ?_
    refine g_top r2 ?_
    refine g_iconst (pc := 57) (v := 1) d_HI_remember_57 (by decide) ?_
    refine g_iadd (pc := 58) d_HI_remember_58 ?_
    refine g_top (y := nI (nx + 1)) (nI_1 nx) ?_
    refine g_goto (pc := 59) (tgt := 63) d_HI_remember_59 (by decide) ?_
    refine g_lpI0 (pc := 63) (ci := 6) (f := 2) rfl d_HI_remember_63 fl_HI_17 (fun q hq => by cases hq; exact rfl) rfl rfl (by decide) k_hy nd ?_
    refine g_aload_n (pc := 66) d_HI_remember_66 rfl 0 rfl ?_
    refine g_lgI0 (pc := 67) (ci := 6) (f := 1) rfl d_HI_remember_67 fl_HI_26 (by decide) k_hy nd ?_
    refine g_top (y := nI cnt) ((u1_ne (by omega)).trans r1) ?_
    refine g_bipush (pc := 70) (v := 8) d_HI_remember_70 (by decide) ?_
    refine g_icmp_ge (pc := 72) (tgt := 85) d_HI_remember_72 (by decide) (fun c_72 => ?_) (fun c_72 => ?_)
    · skip
      have e7 : ¬ cnt < 8 := by have := (nI_leI (a := 8) (b := cnt) (by omega) (by omega)).mp c_72; omega
      refine g_vret (pc := 85) d_HI_remember_85 rfl ?_
      unfold hyR at hPP
      first
      | (rw [if_pos e7, if_pos e9] at hPP; exact hPP)
      | (rw [if_neg e7, if_pos e9] at hPP; exact hPP)
    · skip
      have e7 : cnt < 8 := by have := mt (nI_leI (a := 8) (b := cnt) (by omega) (by omega)).mpr c_72; omega
      refine g_aload_n (pc := 75) d_HI_remember_75 rfl 0 rfl ?_
      refine g_dup (pc := 76) d_HI_remember_76 rfl ?_
      refine g_lgI0 (pc := 77) (ci := 6) (f := 1) rfl d_HI_remember_77 fl_HI_26 (by decide) k_hy nd ?_
      refine g_top (y := nI cnt) ((u1_ne (by omega)).trans r1) ?_
      refine g_iconst (pc := 80) (v := 1) d_HI_remember_80 (by decide) ?_
      refine g_iadd (pc := 81) d_HI_remember_81 ?_
      refine g_top (y := nI (cnt + 1)) (nI_1 cnt) ?_
      refine g_lpI0 (pc := 82) (ci := 6) (f := 1) rfl d_HI_remember_82 fl_HI_26 (fun q hq => by cases hq; exact rfl) rfl rfl (by decide) k_hy nd ?_
      refine g_vret (pc := 85) d_HI_remember_85 rfl ?_
      unfold hyR at hPP
      first
      | (rw [if_pos e7, if_pos e9] at hPP; exact hPP)
      | (rw [if_neg e7, if_pos e9] at hPP; exact hPP)
set_option maxRecDepth 20000 in
theorem cr_HI_remember {E : En} {h : Hp} {hy pp b nx cnt nw sc ni U : Nat} (hH : HiOk h hy pp) (r1 : hI h hy 1 = nI cnt) (r2 : hI h hy 2 = nI nx) (n8 : nx < 8) (c8 : cnt ≤ 8) (hB : BuOk h b) (hG : Gd (vB h b) nw sc ni U) (hD : ∀ pk, hR h pp nx = some pk → BuOk h pk ∧ Dis h pk b) : CT E m_HI_remember [.ref hy, .ref b] h 11 156 (fun v h9 => v = none ∧ ∃ pk h2, Slot h pp nx pk h2 ∧ h9 = sA (wB h2 pk (P_copy nw sc (vB h2 pk) (vB h b))) hy (hyR (hI h hy) nx cnt)) noX := by
  refine ct_of rfl (by decide +kernel) (Nat.le_of_ble_eq_true rfl) ?_
  show G E m_HI_remember 0 [(0, .ref hy), (1, .ref b)] [] h 11 156 _ noX
  obtain ⟨k_hy, r_hy_0, k_pp, l_pp⟩ := id hH
  have fin : ∀ (pk : Nat) (h2 : Hp) (k n : Nat), Slot h pp nx pk h2 → G E m_HI_remember 28 [(0, .ref hy), (1, .ref b)] [] h2 k n (fun v h9 => v = none ∧ ∃ pk h2, Slot h pp nx pk h2 ∧ h9 = sA (wB h2 pk (P_copy nw sc (vB h2 pk) (vB h b))) hy (hyR (hI h hy) nx cnt)) noX := by
    intro pk h2 k n s
    have kk := s.kp
    obtain ⟨p1, p2⟩ := s.two k_pp hB hD
    obtain ⟨b1, -, -, b4⟩ := hB.kp kk k_pp
    obtain ⟨i1, i2, i3, i4⟩ := kk hy (by omega)
    obtain ⟨j1, -, j3, j4⟩ := kk pp (by omega)
    have ne : hy ≠ pp := fun z => by rw [z] at k_hy; omega
    refine lp_HI_remember (pp := pp) (nx := nx) (cnt := cnt) (pk := pk) (nw := nw) (sc := sc) (ni := ni) (U := U) ⟨by rw [i3]; exact k_hy, by rw [i2 ne]; exact r_hy_0, by rw [j3]; exact k_pp, by rw [j4]; exact l_pp⟩ (by rw [i1]; exact r1) (by rw [i1]; exact r2) n8 c8 b1 (by rw [b4]; exact hG) s.nx p1 p2 ⟨rfl, pk, h2, s, ?_⟩
    rw [b4, i1]
  refine g_aload_n (pc := 0) d_HI_remember_0 rfl 0 rfl ?_
  refine g_getR (pc := 1) (ci := 6) (f := 0) (b := pp) rfl r_hy_0 d_HI_remember_1 fl_HI_11 (by decide) k_hy ?_
  refine g_aload_n (pc := 4) d_HI_remember_4 rfl 0 rfl ?_
  refine g_getIX (pc := 5) (ci := 6) (f := 2) (nI nx) rfl d_HI_remember_5 fl_HI_17 (by decide) k_hy r2 ?_
  have hin : vp_in (nI nx) (hL h pp) := vp_in_nI (by rw [l_pp]; exact n8) (by rw [l_pp]; decide)
  have cl : (nI nx).toNatClampNeg = nx := nI_clamp (by omega)
  cases hs : hR h pp nx with
  | some pk =>
    refine g_aaload (pc := 8) (kd := 25) (b := pk) d_HI_remember_8 (Or.inl rfl) k_pp hin (by rw [cl]; exact hs) ?_
    refine g_ifnonnull (pc := 9) (tgt := 28) d_HI_remember_9 (by decide) ?_
    exact fin pk h 11 156 (Or.inl ⟨rfl, hs⟩)
  | none =>
    refine g_aaloadN (pc := 8) (kd := 25) d_HI_remember_8 (Or.inl rfl) k_pp hin (by rw [cl]; exact hs) ?_
    refine g_ifnonnullN (pc := 9) d_HI_remember_9 ?_
    refine g_aload_n (pc := 12) d_HI_remember_12 rfl 0 rfl ?_
    refine g_getR (pc := 13) (ci := 6) (f := 0) (b := pp) rfl r_hy_0 d_HI_remember_13 fl_HI_11 (by decide) k_hy ?_
    refine g_aload_n (pc := 16) d_HI_remember_16 rfl 0 rfl ?_
    refine g_getIX (pc := 17) (ci := 6) (f := 2) (nI nx) rfl d_HI_remember_17 fl_HI_17 (by decide) k_hy r2 ?_
    refine g_mkB (k := 0) (n := 0) (pc := 20) d_HI_remember_20 cl_HI_9 d_HI_remember_23 d_HI_remember_24 rfl st_HI_remember_21 (Nat.le_of_ble_eq_true rfl) (fun pk h1 nb => ?_)
    have e1 := nb.1 pp (by omega)
    refine g_aastore (pc := 27) (kd := 25) (ci := 4) d_HI_remember_27 (Or.inl ⟨rfl, rfl⟩) (by rw [e1.2.2.2.1]; exact k_pp) nb.2.1.1 (by rw [e1.2.2.2.2]; exact hin) ?_
    rw [cl]
    exact fin pk _ 0 0 (Or.inr ⟨hs, h1, nb, rfl⟩)
