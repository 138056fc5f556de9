/-! ANSWERS: the text's errors, the output, shares -/
theorem rP_self (P0 : Nat → Int32) : rP P0 (P0 3, P0 4, P0 5) = P0 := by
  funext q
  simp only [rP, u1_at]
  (repeat' split) <;> (try subst_vars) <;> rfl
def AnsV (E : En) (F M' : Mt) (z : Value) (h : Hp) (A : Nat → Nat) (i : Nat) : Prop :=
  CT E F [.ref (A 22)] h 0 0 (fun r h1 => r = some z ∧ hK h1 (A 8) = 8 ∧ CT E M' [.ref (A 8)] h1 0 0 (fun y h2 => y = some z ∧ LOK h2 A (i + 1)) noX) noX
/-- after the class: all but the model is done -/
theorem LI.thr {h : Hp} {A γ : Nat → Nat} {s : Sv} {i : Nat} {w : Int32} (L : LI h A γ s i) : LOK (wL h (((A 8), u1 (hI h (A 8)) 17 w) :: ((A 7), hI h (A 7)) :: [])) A (i + 1) := ⟨γ, s, (L.mo (fun k hk => by rw [u1_ne (fun z => by subst z; exact absurd hk (by decide))]) (fun _ _ => rfl)).mono (Nat.le_succ i)⟩
theorem an_errorCode {E : En} {h : Hp} {A γ : Nat → Nat} {s : Sv} {i : Nat} (L : LI h A γ s i) (hi : i ≤ 512) : AnsD E m_HS_errorCode m_MO_errorCode [] h A i := by
  obtain ⟨nw, sc, ni, U, b, sp, B, d, ⟨k_x, r_x_2, r_x_3⟩, -, vb, hw, w0, hG, hP, hU⟩ := L.now
  obtain ⟨mo, e1, e2, e3⟩ := L.mform d hG.1.2.1 hG.1.2.2.2.1
  have k := cs_HS_errorCode (E := E) (h := h) (x := (A 22)) (pa := (A 14)) (P0 := hI h (A 14)) (q := (hI h (A 14) 3, hI h (A 14) 4, hI h (A 14) 5)) (R := []) k_x L.1.1.1.2.1 L.1.1.2.1.1 (List.nodup_cons.mpr ⟨List.not_mem_nil, List.nodup_nil⟩)
  rw [rP_self, ← wL1_self (h := h) (a := (A 14)) rfl] at k
  refine k.mono (fun v h1 p => ?_) (fun _ _ z => z)
  obtain ⟨rfl, rfl⟩ := p
  refine ⟨_, rfl, mo.1, ?_⟩
  have q := cm_MO_errorCode (E := E) (h := h1) (c := hI h1 (A 8)) (g := hI h1 (A 7)) (R := []) mo L.1.2.2.1.nd2 hG
  rw [e3, e1] at q
  refine q.mono (fun y h2 p => ?_) (fun _ _ z => z)
  obtain ⟨rfl, rfl⟩ := p
  exact ⟨by rw [L.2.2.2.1.1.2.2.2.1, L.2.2.1.2.2.1.1], L.thr⟩
theorem an_errorPosition {E : En} {h : Hp} {A γ : Nat → Nat} {s : Sv} {i : Nat} (L : LI h A γ s i) (hi : i ≤ 512) : AnsD E m_HS_errorPosition m_MO_errorPosition [] h A i := by
  obtain ⟨nw, sc, ni, U, b, sp, B, d, ⟨k_x, r_x_2, r_x_3⟩, -, vb, hw, w0, hG, hP, hU⟩ := L.now
  obtain ⟨mo, e1, e2, e3⟩ := L.mform d hG.1.2.1 hG.1.2.2.2.1
  have k := cs_HS_errorPosition (E := E) (h := h) (x := (A 22)) (pa := (A 14)) (P0 := hI h (A 14)) (q := (hI h (A 14) 3, hI h (A 14) 4, hI h (A 14) 5)) (R := []) k_x L.1.1.1.2.1 L.1.1.2.1.1 (List.nodup_cons.mpr ⟨List.not_mem_nil, List.nodup_nil⟩)
  rw [rP_self, ← wL1_self (h := h) (a := (A 14)) rfl] at k
  refine k.mono (fun v h1 p => ?_) (fun _ _ z => z)
  obtain ⟨rfl, rfl⟩ := p
  refine ⟨_, rfl, mo.1, ?_⟩
  have q := cm_MO_errorPosition (E := E) (h := h1) (c := hI h1 (A 8)) (g := hI h1 (A 7)) (R := []) mo L.1.2.2.1.nd2 hG
  rw [e3, e1] at q
  refine q.mono (fun y h2 p => ?_) (fun _ _ z => z)
  obtain ⟨rfl, rfl⟩ := p
  exact ⟨by rw [L.2.2.2.1.1.2.2.2.2.1, L.2.2.1.2.2.1.2], L.thr⟩
theorem an_meanExcess {E : En} {h : Hp} {A γ : Nat → Nat} {s : Sv} {i : Nat} (L : LI h A γ s i) (hi : i ≤ 512) : ∃ z : UInt64, AnsV E m_HS_meanExcess m_MO_meanExcess (.double z) h A i := by
  obtain ⟨nw, sc, ni, U, b, sp, B, d, ⟨k_x, r_x_2, r_x_3⟩, ⟨hB, hN, hD⟩, vb, hw, w0, hG, hP, hU⟩ := L.now
  obtain ⟨mo, e1, e2, e3⟩ := L.mform d hG.1.2.1 hG.1.2.2.2.1
  have k := cs_HS_meanExcess (E := E) k_x r_x_2 hB hG
  rw [hw] at k
  refine ⟨FP.ddiv (FP.i2d (Q_sum B.1 B.2.1 B.2.2 nw sc)) (FP.i2d (nI sc)), k.mono (fun v h1 p => ?_) (fun _ _ z => z)⟩
  obtain ⟨rfl, rfl⟩ := p
  refine ⟨rfl, mo.1, ?_⟩
  have q := cm_MO_meanExcess (E := E) (h := h1) (c := hI h1 (A 8)) (g := hI h1 (A 7)) (R := []) mo L.1.2.2.1.nd2 hG
  rw [e3, e1] at q
  refine q.mono (fun y h2 p => ?_) (fun _ _ z => z)
  obtain ⟨rfl, rfl⟩ := p
  exact ⟨rfl, L.thr⟩
theorem fd_f2d (a : Int32) {b : Int32} (hb : ¬ b = 0) : vf_n64 (FP.f2d (FP.fdiv (FP.i2f a) (FP.i2f b))) := by
  have h1 : FP.Core.fIsNaN (FP.Core.i2f a) = false := by rw [Bool.eq_false_iff]; intro z; exact (FP.Core.i2f_fin a).ne_nan ((FP.Core.fIsNaN_iff _).mp z)
  have h2 : ¬ FP.Core.FZero (FP.Core.i2f b) := fun z => FP.Core.i2f_ne_zero hb ((FP.Core.zero_bits232 _).mp z)
  have h3 : FP.Core.fIsNaN (FP.Core.fdiv (FP.Core.i2f a) (FP.Core.i2f b)) = false := FP.Core.fdiv_out h1 (FP.Core.i2f_fin b) h2
  rw [FP.fdiv_core, FP.i2f_core, FP.f2d_core h3]
  have h5 : FP.Core.dIsNaN (FP.Core.f2d (FP.Core.fdiv (FP.Core.i2f a) (FP.Core.i2f b))) = false := FP.Core.f2d_out h3
  have h4 := mt (FP.Core.isNaN_bits _).mpr (by rw [h5]; decide)
  unfold vf_n64
  rw [UInt64.le_iff_toNat_le, UInt64.toNat_and]
  rw [show (0x7fffffffffffffff : UInt64).toNat = 2 ^ 63 - 1 from rfl, Nat.and_two_pow_sub_one_eq_mod]
  have e : (0x7ff0000000000000 : UInt64).toNat = 9218868437227405312 := rfl
  rw [e]
  omega
theorem an_trueShare {E : En} {h : Hp} {A γ : Nat → Nat} {s : Sv} {i : Nat} (L : LI h A γ s i) (hi : i ≤ 512) : ∃ z : UInt32, vf_n64 (FP.f2d z) ∧ AnsV E m_HS_trueShare m_MO_trueShare (.float z) h A i := by
  obtain ⟨nw, sc, ni, U, b, sp, B, d, ⟨k_x, r_x_2, r_x_3⟩, ⟨hB, hN, hD⟩, vb, hw, w0, hG, hP, hU⟩ := L.now
  obtain ⟨mo, e1, e2, e3⟩ := L.mform d hG.1.2.1 hG.1.2.2.2.1
  have s0 := hG.1.2.2.2.2.1
  have s8 := hG.1.2.2.2.1
  have k := cs_HS_trueShare (E := E) k_x r_x_2 hB hG
  rw [hw] at k
  refine ⟨FP.fdiv (FP.i2f (nI (Q_true B.1 B.2.1 B.2.2 nw sc))) (FP.i2f (nI sc)), fd_f2d _ (fun z => ?_), k.mono (fun v h1 p => ?_) (fun _ _ z => z)⟩
  · have := nI_inj (b := 0) (by omega) (by decide) z
    omega
  obtain ⟨rfl, rfl⟩ := p
  refine ⟨rfl, mo.1, ?_⟩
  have q := cm_MO_trueShare (E := E) (h := h1) (c := hI h1 (A 8)) (g := hI h1 (A 7)) (R := []) mo L.1.2.2.1.nd2 hG
  rw [e3, e1] at q
  refine q.mono (fun y h2 p => ?_) (fun _ _ z => z)
  obtain ⟨rfl, rfl⟩ := p
  exact ⟨rfl, L.thr⟩
/-! the output -/
theorem Fx.nd_so {h : Hp} {A γ : Nat → Nat} (F : Fx h A γ) : ((A 9) :: (A 10) :: (([] : List (Nat × (Nat → Int32))).map Prod.fst)).Nodup := by
  simp only [List.map_nil, List.nodup_cons, List.mem_cons, List.not_mem_nil, or_false, not_false_eq_true, List.nodup_nil, and_true]
  exact F.ne (by decide) (by decide) (by decide)
theorem Fx.nd_mo {h : Hp} {A γ : Nat → Nat} (F : Fx h A γ) : ((A 8) :: (A 7) :: (A 2) :: (([] : List (Nat × (Nat → Int32))).map Prod.fst)).Nodup := by
  simp only [List.map_nil, List.nodup_cons, List.mem_cons, List.not_mem_nil, or_false, not_or, not_false_eq_true, List.nodup_nil, and_true]
  exact ⟨⟨F.ne (by decide) (by decide) (by decide), F.ne (by decide) (by decide) (by decide)⟩, F.ne (by decide) (by decide) (by decide)⟩
theorem wL2_self {h : Hp} {a b : Nat} : wL h ((a, hI h a) :: (b, hI h b) :: []) = h := by
  have k := wL_self (h := h) (L := [a, b])
  simp only [List.map] at k
  exact k
theorem wL3_self {h : Hp} {a b c : Nat} : wL h ((a, hI h a) :: (b, hI h b) :: (c, hI h c) :: []) = h := by
  have k := wL_self (h := h) (L := [a, b, c])
  simp only [List.map] at k
  exact k
theorem txt_small (p : Int32) (t s o : Bool) : ∀ b, b ∈ txt p t s o → ∃ k, k < 128 ∧ b = nI k := by
  have dg : ∀ w n b, b ∈ dgF w n → ∃ k, k < 128 ∧ b = nI k := by
    intro w n
    induction n with
    | zero => intro b hb; exact absurd hb List.not_mem_nil
    | succ n ih =>
      intro b hb
      rw [dgF] at hb
      rcases List.mem_cons.mp hb with rfl | hb
      · exact ⟨48 + w / 10 ^ n % 10, by omega, rfl⟩
      · exact ih b hb
  intro b hb
  unfold txt at hb
  simp only [List.mem_append] at hb
  rcases hb with hb | hb | hb | hb | hb
  · split at hb
    · simp at hb; exact ⟨45, by decide, hb⟩
    · simp at hb
  · exact dg _ _ b hb
  · split at hb
    · simp at hb; exact ⟨116, by decide, hb⟩
    · simp at hb; exact ⟨102, by decide, hb⟩
  · split at hb
    · simp at hb; exact ⟨115, by decide, hb⟩
    · simp at hb
  · split at hb
    · simp at hb
    · simp at hb; exact ⟨120, by decide, hb⟩
theorem shop_dec' (n : Nat) (n5 : n < 1000) (v : Int32) : (∃ j, j < n ∧ v = nI j) ∨ (v < 0 ∨ nI n ≤ v) := by
  by_cases c : v < 0
  · exact Or.inr (Or.inl c)
  · have h0 : ¬ v.toInt < 0 := fun z => c ((i_lt _ _).mpr z)
    have e := nat_of (v := v) (by omega)
    by_cases k : v.toInt.toNat < n
    · exact Or.inl ⟨_, k, e⟩
    · refine Or.inr (Or.inr ((i_le _ _).mpr ?_))
      rw [nI_toInt (by omega)]
      omega
theorem an_outputByte {E : En} {h : Hp} {A γ : Nat → Nat} {s : Sv} {i : Nat} {v : Int32} (L : LI h A γ s i) (hi : i ≤ 512) : AnsD E m_HS_outputByte m_MO_outputByte [.int v] h A i := by
  obtain ⟨nw, sc, ni, U, b, sp, B, d, ⟨k_x, r_x_2, r_x_3⟩, -, vb, hw, w0, hG, hP, hU⟩ := L.now
  obtain ⟨mo, e1, e2, e3⟩ := L.mform d hG.1.2.1 hG.1.2.2.2.1
  have r_x_6 := L.1.1.1.2.2.2.2.2
  have hS : SbOk h (A 9) (A 10) := L.1.1.2.2.2.2.2.2
  obtain ⟨c1, c2, c3⟩ := L.2.2.1.2.2.2
  obtain ⟨l14, ls⟩ := L.2.2.2.2.2.1
  have m16 := L.2.2.2.1.1.2.2.2.2.2
  have hU9 := L.1.2.1.2.1
  have t0 : ∀ w, LOK (wL h (((A 8), u1 (hI h (A 8)) 17 w) :: ((A 7), hI h (A 7)) :: ((A 2), hI h (A 2)) :: [])) A (i + 1) := fun w => by
    have e : wL h (((A 8), u1 (hI h (A 8)) 17 w) :: ((A 7), hI h (A 7)) :: ((A 2), hI h (A 2)) :: []) = wL h (((A 8), u1 (hI h (A 8)) 17 w) :: ((A 7), hI h (A 7)) :: []) := by
      refine Prod.ext (funext fun q => ?_) rfl
      show wLf h _ q = wLf h _ q
      simp only [wLf]
      by_cases z1 : q = (A 8)
      · rw [if_pos z1, if_pos z1]
      · rw [if_neg z1, if_neg z1]
        by_cases z2 : q = (A 7)
        · rw [if_pos z2, if_pos z2]
        · rw [if_neg z2, if_neg z2]
          by_cases z3 : q = (A 2)
          · rw [if_pos z3, z3]
          · rw [if_neg z3]
    rw [e]
    exact L.thr
  have fin : ∀ (z : Int32), CR E m_HS_outputByte [.ref (A 22), .int v] (wL h (((A 9), hI h (A 9)) :: ((A 10), hI h (A 10)) :: [])) (some (.int z)) (wL h (((A 9), hI h (A 9)) :: ((A 10), hI h (A 10)) :: [])) → CR E m_MO_outputByte [.ref (A 8), .int v] (wL h (((A 8), hI h (A 8)) :: ((A 7), hI h (A 7)) :: ((A 2), hI h (A 2)) :: [])) (some (.int z)) (wL h (((A 8), u1 (hI h (A 8)) 17 0) :: ((A 7), hI h (A 7)) :: ((A 2), hI h (A 2)) :: [])) → AnsD E m_HS_outputByte m_MO_outputByte [.int v] h A i := fun z k q => by
    rw [wL2_self] at k
    rw [wL3_self] at q
    refine k.mono (fun v h1 p => ?_) (fun _ _ z => z)
    obtain ⟨rfl, rfl⟩ := p
    refine ⟨_, rfl, mo.1, q.mono (fun y h2 p => ?_) (fun _ _ z => z)⟩
    obtain ⟨rfl, rfl⟩ := p
    exact ⟨rfl, t0 0⟩
  rcases shop_dec' (sX s).length (by omega) v with ⟨j, hj, rfl⟩ | hv
  · obtain ⟨k, k1, k2⟩ := ls ((sX s).getD j 0) (by rw [List.getD_eq_getElem?_getD, List.getElem?_eq_getElem hj]; exact List.getElem_mem hj)
    refine fin (nI k) (cs_HS_outputByte (cnt := (sX s).length) k_x r_x_6 hS L.1.2.2.1.nd_so c1 c2 (by omega) hj ((c3 j hj).trans k2) k1) ?_
    have q := cm_MO_outputByte (E := E) (h := h) (c := hI h (A 8)) (G0 := hI h (A 7)) (O := hI h (A 2)) (R := []) (n := (sX s).length) mo hU9 L.1.2.2.1.nd_mo m16 (by omega) hj
    rw [L.2.2.2.1.2.2.1 j hj, k2] at q
    exact q
  · exact fin (-1) (cs_HS_outputByteN (cnt := (sX s).length) k_x r_x_6 hS L.1.2.2.1.nd_so c1 c2 (by omega) hv) (cm_MO_outputByteN (E := E) (h := h) (c := hI h (A 8)) (G0 := hI h (A 7)) (O := hI h (A 2)) (R := []) (n := (sX s).length) mo hU9 L.1.2.2.1.nd_mo m16 (by omega) hv)
/-- the output's text changes -/
def wrS (s : Sv) (l : List Int32) : Sv := (s.1, s.2.1, s.2.2.1, s.2.2.2.1, l)
theorem SP.wr {s : Sv} {i : Nat} {l : List Int32} (h : SP s i) (h1 : l.length ≤ 14) (h2 : ∀ b, b ∈ l → ∃ k, k < 128 ∧ b = nI k) : SP (wrS s l) i := ⟨h.1, ⟨h1, h2⟩, h.2.2⟩
theorem Wr_at {O : Nat → Int32} {l : List Int32} {j : Nat} (hj : j < l.length) : Wr O l j = l.getD j 0 := if_pos hj
theorem mem2 {a b : Nat} {f g : Nat → Int32} (ha : a < 23) (hb : b < 23) : ∀ p : Nat × (Nat → Int32), p ∈ [(a, f), (b, g)] → p.1 < 23 := fun p hp => by
  simp only [List.mem_cons, List.not_mem_nil, or_false] at hp
  rcases hp with rfl | rfl
  · exact ha
  · exact hb
theorem mem3 {a b c : Nat} {f g k : Nat → Int32} (ha : a < 23) (hb : b < 23) (hc : c < 23) : ∀ p : Nat × (Nat → Int32), p ∈ [(a, f), (b, g), (c, k)] → p.1 < 23 := fun p hp => by
  simp only [List.mem_cons, List.not_mem_nil, or_false] at hp
  rcases hp with rfl | rfl | rfl
  · exact ha
  · exact hb
  · exact hc
theorem wA_not {h : Hp} {A γ : Nat → Nat} (F : Fx h A γ) {k : Nat} (hk : k < 23) {L : List (Nat × (Nat → Int32))} (hL : ∀ p, p ∈ L → p.1 < 23) (hn : ∀ p, p ∈ L → p.1 ≠ k) : hI (wA h A L) (A k) = hI h (A k) := by
  rw [wA_at F hk hL, List.find?_eq_none.mpr (fun p hp => by simp [hn p hp])]
theorem ne2 {a b k : Nat} {f g : Nat → Int32} (ha : a ≠ k) (hb : b ≠ k) : ∀ p : Nat × (Nat → Int32), p ∈ [(a, f), (b, g)] → p.1 ≠ k := fun p hp => by
  simp only [List.mem_cons, List.not_mem_nil, or_false] at hp
  rcases hp with rfl | rfl
  · exact ha
  · exact hb
theorem ne3 {a b c k : Nat} {f g e : Nat → Int32} (ha : a ≠ k) (hb : b ≠ k) (hc : c ≠ k) : ∀ p : Nat × (Nat → Int32), p ∈ [(a, f), (b, g), (c, e)] → p.1 ≠ k := fun p hp => by
  simp only [List.mem_cons, List.not_mem_nil, or_false] at hp
  rcases hp with rfl | rfl | rfl
  · exact ha
  · exact hb
  · exact hc
theorem an_writeShop {E : En} {h : Hp} {A γ : Nat → Nat} {s : Sv} {i : Nat} {v : Int32} (hE : (eL E).stackTraces = false) (L : LI h A γ s i) (hi : i ≤ 512) : AnsW E m_LW_writeShop m_MO_writeShop fI [.int v] h A i := by
  obtain ⟨nw, sc, ni, U, b, sp, B, d, ⟨k_x, r_x_2, r_x_3⟩, ⟨hB, hN, hD⟩, vb, hw, w0, hG, hP, hU⟩ := L.now
  have n6 := hG.1.2.1
  have s8 := hG.1.2.2.2.1
  have nd := L.1.2.2.1.nd2
  have u9 : U ≤ 266240 := by omega
  rcases shop_dec sc s8 v with ⟨j, hj, rfl⟩ | hv
  · obtain ⟨CSh, NSh, CIh, MEh, SPh⟩ := id L
    have F := CSh.2.2.1
    have r_x_6 := CSh.1.1.2.2.2.2.2
    have hS : SbOk h (A 9) (A 10) := CSh.1.2.2.2.2.2.2
    obtain ⟨c1, c2, c3⟩ := CIh.2.2.2
    obtain ⟨l14, ls⟩ := SPh.2.1
    have Bb := CSh.2.2.2.1.1 0 b (by decide) r_x_2
    have f1 : Fo h b (A 9) := Bb.fo F (by decide)
    have f2 : Fo h b (A 10) := Bb.fo F (by decide)
    have tl := txt_len (B.2.2 j 0) (decide (M_tot B.1 B.2.1 (B.2.2 j) nw = 0)) (M_stamped (B.2.2 j) (B.1 9)) (decide (B.2.2 j 12 ≠ 0))
    have ts := txt_small (B.2.2 j 0) (decide (M_tot B.1 B.2.1 (B.2.2 j) nw = 0)) (M_stamped (B.2.2 j) (B.1 9)) (decide (B.2.2 j 12 ≠ 0))
    have k := cs_HS_writeShop (E := E) (h := h) (c := hI h (A 9)) (T := hI h (A 10)) (cnt := (sX s).length) k_x r_x_2 r_x_6 hB hG hj hS F.nd_so f1 f2 c1 c2 (by omega) (hP.p0 (by omega) hj)
    have mw := fun (h1 : Hp) (c g O : Nat → Int32) (hM : MoOk h1 (A 8) (A 7)) (hO : MuOk h1 (A 8) (A 2)) => cm_MO_writeShop (E := E) (h := h1) (c := c) (g := g) (O := O) (R := []) hM hO F.nd_mo hG hj (hP.p0 (by omega) hj)
    generalize txt (B.2.2 j 0) (decide (M_tot B.1 B.2.1 (B.2.2 j) nw = 0)) (M_stamped (B.2.2 j) (B.1 9)) (decide (B.2.2 j 12 ≠ 0)) = l at *
    rw [wL2_self, hw] at k
    have hq : ∀ c9 T9, wB (wL h (((A 9), c9) :: ((A 10), T9) :: [])) b B = wA h A [(9, c9), (10, T9)] := fun c9 T9 => by
      rw [wLB f1 f2, hw]
      rfl
    refine (ws_writeShop (out := (A 0)) (Q := fun z h9 => z = nI l.length ∧ ∃ c9, c9 1 = 0 ∧ c9 2 = nI l.length ∧ h9 = wA h A [(9, c9), (10, Wr (hI h (A 10)) l)]) k_x (fun z h9 q => ?_) (k.mono (fun v h1 p => ?_) (fun _ _ z => z)) (by decide) (by decide)).mono (fun v h1 p => ?_) (fun _ _ z => z)
    · obtain ⟨-, c9, -, -, rfl⟩ := q
      exact CSh.2.1.2.2.2
    · obtain ⟨rfl, c9, p1, p2, rfl⟩ := p
      exact ⟨_, rfl, rfl, c9, p1, p2, hq _ _⟩
    · obtain ⟨rfl, z, h9, ⟨rfl, c9, p1, p2, rfl⟩, rfl⟩ := p
      have hl2 := mem2 (f := c9) (g := Wr (hI h (A 10)) l) (show 9 < 23 by decide) (show 10 < 23 by decide)
      have CS1 : CS (sJ (wA h A [(9, c9), (10, Wr (hI h (A 10)) l)]) (A 0) 0 (nI l.length).toInt64) A γ s := (CSh.setA hl2).sh ⟨rfl, rfl, rfl⟩ (fun _ _ _ _ _ => rfl)
      have NS1 : NS (sJ (wA h A [(9, c9), (10, Wr (hI h (A 10)) l)]) (A 0) 0 (nI l.length).toInt64) A s := NSh.sh ⟨rfl, rfl, rfl⟩
      have io : ∀ k, k < 23 → k ≠ 9 → k ≠ 10 → hI (sJ (wA h A [(9, c9), (10, Wr (hI h (A 10)) l)]) (A 0) 0 (nI l.length).toInt64) (A k) = hI h (A k) := fun k hk n1 n2 => wA_not F hk hl2 (ne2 (Ne.symm n1) (Ne.symm n2))
      have i9 : hI (sJ (wA h A [(9, c9), (10, Wr (hI h (A 10)) l)]) (A 0) 0 (nI l.length).toInt64) (A 9) = c9 := wA_at F (by decide) hl2
      have i10 : hI (sJ (wA h A [(9, c9), (10, Wr (hI h (A 10)) l)]) (A 0) 0 (nI l.length).toInt64) (A 10) = Wr (hI h (A 10)) l := wA_at F (by decide) hl2
      have hJ1 : hJ (sJ (wA h A [(9, c9), (10, Wr (hI h (A 10)) l)]) (A 0) 0 (nI l.length).toInt64) (A 0) 0 = (nI l.length).toInt64 := if_pos ⟨rfl, rfl⟩
      generalize sJ (wA h A [(9, c9), (10, Wr (hI h (A 10)) l)]) (A 0) 0 (nI l.length).toInt64 = H1 at *
      have F1 := CS1.2.2.1
      have ME1 : ME H1 A s := MEh.fr (fun k hk => io k (by omega) (by omega) (by omega))
      have z := ME1.2.2.2.2.2 0 (by decide) (Or.inl rfl)
      rw [d] at z
      have e := z.z n6 s8
      obtain ⟨k1, k2, k3, k4, -⟩ := CS1.2.1.1
      have q := mw H1 (hI H1 (A 8)) (hI H1 (A 7)) (hI H1 (A 2)) ⟨k1, k2, k3, k4⟩ CS1.2.1.2.1
      rw [e, wL3_self] at q
      refine ⟨0, (nI l.length).toInt64, by decide, rfl, k1, fun _ => hJ1, q.mono (fun y h2 p => ?_) (fun _ _ z => z)⟩
      obtain ⟨rfl, rfl⟩ := p
      have hl3 := mem3 (f := u1 (u1 (hI H1 (A 8)) 17 0) 16 (nI l.length)) (g := hI H1 (A 7)) (k := Wr (hI H1 (A 2)) l) (show 8 < 23 by decide) (show 7 < 23 by decide) (show 2 < 23 by decide)
      have e9 : wL H1 (((A 8), u1 (u1 (hI H1 (A 8)) 17 0) 16 (nI l.length)) :: ((A 7), hI H1 (A 7)) :: ((A 2), Wr (hI H1 (A 2)) l) :: []) = wA H1 A [(8, u1 (u1 (hI H1 (A 8)) 17 0) 16 (nI l.length)), (7, hI H1 (A 7)), (2, Wr (hI H1 (A 2)) l)] := rfl
      rw [e9]
      have j8 : hI (wA H1 A [(8, u1 (u1 (hI H1 (A 8)) 17 0) 16 (nI l.length)), (7, hI H1 (A 7)), (2, Wr (hI H1 (A 2)) l)]) (A 8) = u1 (u1 (hI H1 (A 8)) 17 0) 16 (nI l.length) := wA_at F1 (by decide) hl3
      have j7 : hI (wA H1 A [(8, u1 (u1 (hI H1 (A 8)) 17 0) 16 (nI l.length)), (7, hI H1 (A 7)), (2, Wr (hI H1 (A 2)) l)]) (A 7) = hI H1 (A 7) := wA_at F1 (by decide) hl3
      have j2 : hI (wA H1 A [(8, u1 (u1 (hI H1 (A 8)) 17 0) 16 (nI l.length)), (7, hI H1 (A 7)), (2, Wr (hI H1 (A 2)) l)]) (A 2) = Wr (hI H1 (A 2)) l := wA_at F1 (by decide) hl3
      have jo : ∀ k, k < 23 → k ≠ 8 → k ≠ 7 → k ≠ 2 → hI (wA H1 A [(8, u1 (u1 (hI H1 (A 8)) 17 0) 16 (nI l.length)), (7, hI H1 (A 7)), (2, Wr (hI H1 (A 2)) l)]) (A k) = hI H1 (A k) := fun k hk n1 n2 n3 => wA_not F1 hk hl3 (ne3 (Ne.symm n1) (Ne.symm n2) (Ne.symm n3))
      refine ⟨_, rfl, ?_, fun _ => rfl, rfl, γ, wrS s l, CS1.setA hl3, NS1.sh ⟨rfl, rfl, rfl⟩, ?_, ?_, (SPh.wr tl ts).mono (Nat.le_succ i)⟩
      · rw [j8, u1_ne (by decide), u1_same]; rfl
      · refine ⟨?_, ?_, ?_, ?_, ?_, ?_⟩
        · rw [jo 12 (by decide) (by decide) (by decide) (by decide), io 12 (by decide) (by decide) (by decide)]; exact CIh.1
        · rw [jo 15 (by decide) (by decide) (by decide) (by decide), io 15 (by decide) (by decide) (by decide), jo 16 (by decide) (by decide) (by decide) (by decide), io 16 (by decide) (by decide) (by decide)]; exact CIh.2.1
        · rw [jo 14 (by decide) (by decide) (by decide) (by decide), io 14 (by decide) (by decide) (by decide)]; exact CIh.2.2.1
        · rw [jo 9 (by decide) (by decide) (by decide) (by decide), i9]; exact p1
        · rw [jo 9 (by decide) (by decide) (by decide) (by decide), i9]; exact p2
        · intro t ht
          rw [jo 10 (by decide) (by decide) (by decide) (by decide), i10]
          exact Wr_at ht
      · obtain ⟨⟨m1, m2, m3, m4, m5, m6⟩, m7, m8, m9, m10, m11⟩ := ME1
        refine ⟨⟨?_, ?_, ?_, ?_, ?_, ?_⟩, ?_, ?_, ?_, ?_, ?_⟩
        · rw [j8]; exact m1
        · rw [j8]; exact m2
        · rw [j8]; exact m3
        · rw [j8]; exact m4
        · rw [j8]; exact m5
        · rw [j8]; rfl
        · rw [jo 5 (by decide) (by decide) (by decide) (by decide)]; exact m7
        · intro t ht
          rw [j2]
          exact Wr_at ht
        · rw [jo 6 (by decide) (by decide) (by decide) (by decide)]; exact m9
        · rw [jo 1 (by decide) (by decide) (by decide) (by decide)]; exact m10
        · rw [j7]; exact m11
  · exact q_er (code := 1) L d n6 s8 (by decide) rfl (fun hc => we_writeShop_1 k_x hc (by decide) (by decide)) (by have k := ce_HS_writeShopN (E := E) hE k_x r_x_2 hB hG hv; rw [hw] at k; exact k) (fun h1 c g hM => m_same (cm_MO_writeShopN hM nd hG hv))
