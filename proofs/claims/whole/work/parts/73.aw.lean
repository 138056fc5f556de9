/-! ANSWERS: append, truncate -/
theorem rF_ex {F : Nat → Int32} {n : Nat} (h : F 1 = nI n) : ∃ t : Tk, rF F n t = F := by
  obtain ⟨k, hk⟩ := nI_sur (F 2)
  obtain ⟨s, hs⟩ := nI_sur (F 3)
  obtain ⟨e, he⟩ := nI_sur (F 4)
  refine ⟨(k, s, e, F 5), funext fun q => ?_⟩
  show TF F n k s e (F 5) q = F q
  unfold TF
  rw [← hk, ← hs, ← he, ← h]
  simp only [u1_at]
  (repeat' split) <;> (try subst_vars) <;> rfl
def txS (s : Sv) (T : Nat → Int32) (n : Nat) (e p : Int32) : Sv := (s.1, s.2.1, s.2.2.1, (T, n, e, p), s.2.2.2.2)
theorem CI.tx {h h2 : Hp} {A : Nat → Nat} {s : Sv} {T : Nat → Int32} {n : Nat} {e p : Int32} (c : CI h A s) (h12 : hI h2 (A 12) = hI h (A 12)) (h9 : hI h2 (A 9) = hI h (A 9)) (h10 : hI h2 (A 10) = hI h (A 10)) (h1 : hI h2 (A 15) 1 = nI n) (hT : ∀ j, j < n → hI h2 (A 16) j = T j) (h4 : hI h2 (A 14) 4 = e) (h5 : hI h2 (A 14) 5 = p) : CI h2 A (txS s T n e p) := by
  refine ⟨?_, ⟨h1, hT⟩, ⟨h4, h5⟩, ?_⟩
  · rw [h12]; exact c.1
  · rw [h9, h10]; exact c.2.2.2
theorem ME.tx {H : Hp} {A γ : Nat → Nat} {s : Sv} {c' T' T : Nat → Int32} {n : Nat} {e p : Int32} (m : ME H A s) (F : Fx H A γ) (hc : ∀ k, k ∈ [1, 2, 16] → c' k = hI H (A 8) k) (h5 : c' 5 = nI n) (h6 : c' 6 = e) (h7 : c' 7 = p) (hT : ∀ j, j < n → T' j = T j) : ME (wL H (((A 8), c') :: ((A 5), T') :: [])) A (txS s T n e p) := by
  have hl2 := mem2 (f := c') (g := T') (show 8 < 23 by decide) (show 5 < 23 by decide)
  have e9 : wL H (((A 8), c') :: ((A 5), T') :: []) = wA H A [(8, c'), (5, T')] := rfl
  rw [e9]
  have j8 : hI (wA H A [(8, c'), (5, T')]) (A 8) = c' := wA_at F (by decide) hl2
  have j5 : hI (wA H A [(8, c'), (5, T')]) (A 5) = T' := wA_at F (by decide) hl2
  have jo : ∀ k, k < 23 → k ≠ 8 → k ≠ 5 → hI (wA H A [(8, c'), (5, T')]) (A k) = hI H (A k) := fun k hk n1 n2 => wA_not F hk hl2 (ne2 (Ne.symm n1) (Ne.symm n2))
  obtain ⟨⟨m1, m2, m3, m4, m5, m6⟩, m7, m8, m9, m10, m11⟩ := m
  refine ⟨⟨?_, ?_, ?_, ?_, ?_, ?_⟩, ?_, ?_, ?_, ?_, ?_⟩
  · rw [j8, hc 1 (by decide)]; exact m1
  · rw [j8, hc 2 (by decide)]; exact m2
  · rw [j8]; exact h5
  · rw [j8]; exact h6
  · rw [j8]; exact h7
  · rw [j8, hc 16 (by decide)]; exact m6
  · rw [j5]; exact hT
  · rw [jo 2 (by decide) (by decide) (by decide)]; exact m8
  · rw [jo 6 (by decide) (by decide) (by decide)]; exact m9
  · rw [jo 1 (by decide) (by decide) (by decide)]; exact m10
  · rw [jo 7 (by decide) (by decide) (by decide)]; exact m11
theorem SP.tx {s : Sv} {i n : Nat} {T : Nat → Int32} {e p : Int32} (h : SP s i) (n5 : n ≤ 500) (hn : n ≤ sN s + 20) : SP (txS s T n e p) (i + 1) := by
  obtain ⟨⟨a1, a2, a3⟩, b, U, u1', u2'⟩ := h
  exact ⟨⟨a1, a2, n5⟩, b, U, by show U + 26 * n ≤ 520 * (i + 1); omega, u2'⟩
theorem X_four_cong {T T' : Nat → Int32} {n : Nat} {v : Int32} (h : ∀ j, j < n → T j = T' j) : ∀ j, j < n + 4 → X_four T n v j = X_four T' n v j := by
  intro j hj
  unfold X_four
  simp only [u1_at]
  split
  · rfl
  · split
    · rfl
    · split
      · rfl
      · split
        · rfl
        · exact h j (by omega)
theorem Fx.nd_mi {h : Hp} {A γ : Nat → Nat} (F : Fx h A γ) : ((A 8) :: (A 5) :: (([] : List (Nat × (Nat → Int32))).map Prod.fst)).Nodup := by
  simp only [List.map_nil, List.nodup_cons, List.mem_cons, List.not_mem_nil, or_false, not_false_eq_true, List.nodup_nil, and_true]
  exact F.ne (by decide) (by decide) (by decide)
theorem Fx.nd_ip {h : Hp} {A γ : Nat → Nat} (F : Fx h A γ) : ((A 15) :: (A 16) :: (([] : List (Nat × (Nat → Int32))).map Prod.fst)).Nodup := by
  simp only [List.map_nil, List.nodup_cons, List.mem_cons, List.not_mem_nil, or_false, not_false_eq_true, List.nodup_nil, and_true]
  exact F.ne (by decide) (by decide) (by decide)
theorem Fx.mi {h : Hp} {A γ : Nat → Nat} {s : Sv} (c : CS h A γ s) : MiOk h (A 8) (A 5) := by
  obtain ⟨i1, i2, i3, i4, i5, i6, i7, -⟩ := c.2.1.1
  exact ⟨i1, i5, i6, i7⟩
/-- the text as both hold it: the class's cells and the model's change -/
theorem tx_ok {E : En} {W M' : Mt} {as : List Value} {h : Hp} {A γ : Nat → Nat} {s : Sv} {i n : Nat} {z : Int32} {Fi Tb c' T' T : Nat → Int32} (L : LI h A γ s i) (n5 : n ≤ 500) (hn : n ≤ sN s + 20)
    (hw : CT E W (.ref (A 22) :: as ++ [.ref (A 0)]) h 11 156 (fun v h1 => v = some (.int 0) ∧ ∃ z9 h9, (z9 = z ∧ h9 = wL h (((A 15), Fi) :: ((A 16), Tb) :: [])) ∧ h1 = sJ h9 (A 0) 0 (fI z9)) noX)
    (f1 : Fi 1 = nI n) (f2 : ∀ j, j < n → Tb j = T j) (hm : ∀ H : Hp, MiOk H (A 8) (A 5) → hI H (A 8) = hI h (A 8) → hI H (A 5) = hI h (A 5) → CR E M' (.ref (A 8) :: as) H (some (.int z)) (wL H (((A 8), c') :: ((A 5), T') :: [])))
    (hc : ∀ k, k ∈ [1, 2, 6, 7, 16] → c' k = hI h (A 8) k) (h5 : c' 5 = nI n) (h17 : c' 17 = 0) (hT : ∀ j, j < n → T' j = T j) : AnsW E W M' fI as h A i := by
  obtain ⟨CSh, NSh, CIh, MEh, SPh⟩ := id L
  have F := CSh.2.2.1
  refine fin_ok hw (fun z9 h9 q => ?_)
  obtain ⟨rfl, rfl⟩ := q
  have hl2 := mem2 (f := Fi) (g := Tb) (show 15 < 23 by decide) (show 16 < 23 by decide)
  have e9 : wL h (((A 15), Fi) :: ((A 16), Tb) :: []) = wA h A [(15, Fi), (16, Tb)] := rfl
  rw [e9]
  have CS1 : CS (sJ (wA h A [(15, Fi), (16, Tb)]) (A 0) 0 (fI z9)) A γ s := (CSh.setA hl2).sh ⟨rfl, rfl, rfl⟩ (fun _ _ _ _ _ => rfl)
  have NS1 : NS (sJ (wA h A [(15, Fi), (16, Tb)]) (A 0) 0 (fI z9)) A s := NSh.sh ⟨rfl, rfl, rfl⟩
  have i15 : hI (sJ (wA h A [(15, Fi), (16, Tb)]) (A 0) 0 (fI z9)) (A 15) = Fi := wA_at F (by decide) hl2
  have i16 : hI (sJ (wA h A [(15, Fi), (16, Tb)]) (A 0) 0 (fI z9)) (A 16) = Tb := wA_at F (by decide) hl2
  have io : ∀ k, k < 23 → k ≠ 15 → k ≠ 16 → hI (sJ (wA h A [(15, Fi), (16, Tb)]) (A 0) 0 (fI z9)) (A k) = hI h (A k) := fun k hk n1 n2 => wA_not F hk hl2 (ne2 (Ne.symm n1) (Ne.symm n2))
  refine ⟨CSh.2.1.1.1, ?_⟩
  generalize sJ (wA h A [(15, Fi), (16, Tb)]) (A 0) 0 (fI z9) = H at *
  have CI1 : CI H A (txS s T n (sE s) (sP s)) := CIh.tx (io 12 (by decide) (by decide) (by decide)) (io 9 (by decide) (by decide) (by decide)) (io 10 (by decide) (by decide) (by decide)) (by rw [i15]; exact f1) (by rw [i16]; exact f2) (by rw [io 14 (by decide) (by decide) (by decide)]; exact CIh.2.2.1.1) (by rw [io 14 (by decide) (by decide) (by decide)]; exact CIh.2.2.1.2)
  have ME1 : ME H A s := MEh.fr (fun k hk => io k (by omega) (by omega) (by omega))
  have i8 : hI H (A 8) = hI h (A 8) := io 8 (by decide) (by decide) (by decide)
  refine (hm H (Fx.mi CS1) i8 (io 5 (by decide) (by decide) (by decide))).mono (fun y h2 p => ?_) (fun _ _ z => z)
  obtain ⟨rfl, rfl⟩ := p
  have hl3 := mem2 (f := c') (g := T') (show 8 < 23 by decide) (show 5 < 23 by decide)
  have CS2 : CS (wL H (((A 8), c') :: ((A 5), T') :: [])) A γ (txS s T n (sE s) (sP s)) := CS1.setA hl3
  refine ⟨rfl, wL_17 (w := 0) h17, rfl, γ, txS s T n (sE s) (sP s), CS2, NS.sh NS1 ⟨rfl, rfl, rfl⟩, CI.fr CI1 (fun k' h1 h2 => wA_not CS1.2.2.1 h2 hl3 (ne2 (by omega) (by omega))), ME1.tx CS1.2.2.1 (fun k hk => ?_) h5 ?_ ?_ hT, SPh.tx n5 hn⟩
  · rw [i8]
    refine hc k ?_
    simp only [List.mem_cons, List.not_mem_nil, or_false] at hk ⊢
    omega
  · rw [hc 6 (by decide), ← i8]; exact ME1.1.2.2.2.1
  · rw [hc 7 (by decide), ← i8]; exact ME1.1.2.2.2.2.1
/-- refused -/
theorem tx_er {E : En} {W M' : Mt} {as : List Value} {h : Hp} {A γ : Nat → Nat} {s : Sv} {i : Nat} (L : LI h A γ s i) (hw : CT E W (.ref (A 22) :: as ++ [.ref (A 0)]) h 11 156 (fun v h1 => v = some (.int 1) ∧ h1 = h) noX)
    (hm : CR E M' (.ref (A 8) :: as) h (some (.int 0)) (wL h (((A 8), u1 (hI h (A 8)) 17 1) :: ((A 5), hI h (A 5)) :: []))) : AnsW E W M' fI as h A i := by
  obtain ⟨CSh, NSh, CIh, MEh, SPh⟩ := id L
  have F := CSh.2.2.1
  refine fin_er (code := 1) (w := 1) (Q := fun h1 => h1 = h) (Or.inl rfl) rfl hw (fun h1 q => ?_)
  subst q
  refine ⟨CSh.2.1.1.1, hm.mono (fun y h2 p => ?_) (fun _ _ z => z)⟩
  obtain ⟨rfl, rfl⟩ := p
  have hl3 := mem2 (f := u1 (hI h1 (A 8)) 17 1) (g := hI h1 (A 5)) (show 8 < 23 by decide) (show 5 < 23 by decide)
  have m := MEh.tx (T := sT s) (n := sN s) (e := sE s) (p := sP s) (c' := u1 (hI h1 (A 8)) 17 1) (T' := hI h1 (A 5)) F (fun k hk => u1_ne (fun z => by subst z; exact absurd hk (by decide))) MEh.1.2.2.1 MEh.1.2.2.2.1 MEh.1.2.2.2.2.1 MEh.2.1
  exact ⟨⟨0, rfl⟩, wL_17 (w := 0) (u1_same _ _ _), rfl, γ, s, CSh.setA hl3, NSh.sh ⟨rfl, rfl, rfl⟩, CIh.fr (fun k' h1 h2 => wA_not F h2 hl3 (ne2 (by omega) (by omega))), m, SPh.mono (Nat.le_succ i)⟩
theorem an_append {E : En} {h : Hp} {A γ : Nat → Nat} {s : Sv} {i : Nat} {a1 a2 a3 a4 a5 : Int32} (hE : (eL E).stackTraces = false) (L : LI h A γ s i) (hi : i ≤ 512) : AnsW E m_LW_append m_MO_append fI [.int a1, .int a2, .int a3, .int a4, .int a5] h A i := by
  obtain ⟨CSh, NSh, CIh, MEh, SPh⟩ := id L
  have F := CSh.2.2.1
  have n5 := SPh.1.2.2
  have k_x := CSh.1.1.1
  have r_x_1 := CSh.1.1.2.2.1
  have hI9 := CSh.1.2.2.1
  obtain ⟨t, et⟩ := rF_ex CIh.2.1.1
  by_cases c : sN s + 20 ≤ 500
  · have k := cs_HS_append (E := E) (h := h) (n := sN s) (F0 := hI h (A 15)) (T := hI h (A 16)) (t := t) (R := []) (a1 := a1) (a2 := a2) (a3 := a3) (a4 := a4) (a5 := a5) k_x r_x_1 hI9 F.nd_ip c
    rw [et, wL2_self] at k
    refine tx_ok (T := X_four (X_four (X_four (X_four (X_four (sT s) (sN s) a1) (sN s + 4) a2) (sN s + 8) a3) (sN s + 12) a4) (sN s + 16) a5) (T' := X_four (X_four (X_four (X_four (X_four (hI h (A 5)) (sN s) a1) (sN s + 4) a2) (sN s + 8) a3) (sN s + 12) a4) (sN s + 16) a5) (n := sN s + 20) (c' := u1 (u1 (hI h (A 8)) 17 0) 5 (nI (sN s + 20))) L c (Nat.le_refl _) (ws_append (out := (A 0)) (Q := fun z h9 => z = nI (sN s + 20) ∧ h9 = _) k_x (fun z h9 q => by rw [q.2]; exact CSh.2.1.2.2.2) (k.mono (fun v h1 p => ⟨_, p.1, rfl, p.2⟩) (fun _ _ z => z)) (by decide) (by decide)) rfl ?_ (fun H hM e8 e5 => ?_) (fun k hk => ?_) (u1_same _ _ _) (by rw [u1_ne (by decide), u1_same]) ?_
    · exact X_four_cong (X_four_cong (X_four_cong (X_four_cong (X_four_cong CIh.2.1.2))))
    · have q := cm_MO_append (E := E) (h := H) (c := hI H (A 8)) (T := hI H (A 5)) (n := sN s) (R := []) (a1 := a1) (a2 := a2) (a3 := a3) (a4 := a4) (a5 := a5) hM F.nd_mi (by rw [e8]; exact MEh.1.2.2.1) c
      rw [wL2_self, e8, e5] at q
      exact q
    · rw [u1_ne (fun z => by subst z; exact absurd hk (by decide)), u1_ne (fun z => by subst z; exact absurd hk (by decide))]
    · exact X_four_cong (X_four_cong (X_four_cong (X_four_cong (X_four_cong MEh.2.1))))
  · have k := ce_HS_appendS (E := E) (h := h) (n := sN s) (F0 := hI h (A 15)) (T := hI h (A 16)) (t := t) (R := []) (a1 := a1) (a2 := a2) (a3 := a3) (a4 := a4) (a5 := a5) hE k_x r_x_1 hI9 F.nd_ip c n5
    rw [et, wL2_self] at k
    have q := cm_MO_appendN (E := E) (h := h) (c := hI h (A 8)) (T := hI h (A 5)) (n := sN s) (R := []) (a1 := a1) (a2 := a2) (a3 := a3) (a4 := a4) (a5 := a5) (Fx.mi CSh) F.nd_mi MEh.1.2.2.1 ⟨n5, by omega⟩
    rw [wL2_self] at q
    exact tx_er L (we_append_1 (out := (A 0)) k_x k (by decide) (by decide)) q
theorem an_truncate {E : En} {h : Hp} {A γ : Nat → Nat} {s : Sv} {i : Nat} {y : Int32} (hE : (eL E).stackTraces = false) (L : LI h A γ s i) (hi : i ≤ 512) : AnsW E m_LW_truncate m_MO_truncate fI [.int y] h A i := by
  obtain ⟨CSh, NSh, CIh, MEh, SPh⟩ := id L
  have F := CSh.2.2.1
  have n5 := SPh.1.2.2
  have k_x := CSh.1.1.1
  have r_x_1 := CSh.1.1.2.2.1
  have hI9 := CSh.1.2.2.1
  obtain ⟨t, et⟩ := rF_ex CIh.2.1.1
  rcases num_dec 0 (nI (sN s)) y with ⟨hr1, hr2⟩ | hrn
  · have b1 : (0 : Int) ≤ y.toInt := (i_le _ _).mp hr1
    have b2 : y.toInt ≤ (nI (sN s)).toInt := (i_le _ _).mp hr2
    rw [nI_toInt (by omega)] at b2
    have ey := nat_of (v := y) (by omega)
    have hj : y.toInt.toNat ≤ sN s := by omega
    generalize y.toInt.toNat = j at *
    subst ey
    have k := cs_HS_truncate (E := E) (h := h) (n := sN s) (F0 := hI h (A 15)) (T := hI h (A 16)) (t := t) (R := []) k_x r_x_1 hI9 F.nd_ip hj n5
    rw [et, wL2_self] at k
    refine tx_ok (T := sT s) (T' := hI h (A 5)) (n := j) (c' := u1 (u1 (hI h (A 8)) 17 0) 5 (nI j)) L (by omega) (by omega) (ws_truncate (out := (A 0)) (Q := fun z h9 => z = nI j ∧ h9 = _) k_x (fun z h9 q => by rw [q.2]; exact CSh.2.1.2.2.2) (k.mono (fun v h1 p => ⟨_, p.1, rfl, p.2⟩) (fun _ _ z => z)) (by decide) (by decide)) rfl (fun q hq => CIh.2.1.2 q (by omega)) (fun H hM e8 e5 => ?_) (fun k hk => ?_) (u1_same _ _ _) (by rw [u1_ne (by decide), u1_same]) (fun q hq => MEh.2.1 q (by omega))
    · have q := cm_MO_truncate (E := E) (h := H) (c := hI H (A 8)) (T := hI H (A 5)) (R := []) (x := nI j) hM F.nd_mi hr1 (by rw [e8, MEh.1.2.2.1]; exact hr2)
      rw [wL2_self, e8, e5] at q
      exact q
    · rw [u1_ne (fun z => by subst z; exact absurd hk (by decide)), u1_ne (fun z => by subst z; exact absurd hk (by decide))]
  · have k := ce_HS_truncateR (E := E) (h := h) (n := sN s) (F0 := hI h (A 15)) (T := hI h (A 16)) (t := t) (R := []) hE k_x r_x_1 hI9 F.nd_ip hrn
    rw [et, wL2_self] at k
    have q := cm_MO_truncateR (E := E) (h := h) (c := hI h (A 8)) (T := hI h (A 5)) (R := []) (x := y) (Fx.mi CSh) F.nd_mi (by rw [MEh.1.2.2.1]; exact hrn)
    rw [wL2_self] at q
    exact tx_er L (we_truncate_1 (out := (A 0)) k_x k (by decide) (by decide)) q
