/-! THE FIRST SETUP, new HonestScales() -/
def Z_0 : Nat → Int32 := fun _ => 0
def B_0 : Bu := (Z_0, Z_0, fun _ => Z_0)
def T_0 : Nat → Int32 := X_put Z_0 0 (strB.getD 0 []) 136
def Y_0 : Bp := Y_setup T_0 136 ((0, 0, 0, 0), 0, 0, 0) Z_0 B_0
set_option maxRecDepth 100000 in
theorem Y_0_t : Y_0.1 = true ∧ Y_0.2.1.2.2.1 = 0 ∧ Y_0.2.1.2.2.2 = -1 := by decide +kernel
theorem TF0 : TF Z_0 0 0 0 0 0 = Z_0 := by
  funext q
  simp only [TF, u1_at, Z_0, nI_0, ite_self]
theorem rP0 : rP Z_0 (0, 0, 0) = Z_0 := by
  funext q
  simp only [rP, u1_at, Z_0, ite_self]
theorem wL_more {h : Hp} {a b c d : Nat} {f g : Nat → Int32} : wL h [(a, f), (b, g)] = wL h [(a, f), (b, g), (c, hI h c), (d, hI h d)] := by
  refine Prod.ext (funext fun q => ?_) rfl
  show wLf h [(a, f), (b, g)] q = wLf h [(a, f), (b, g), (c, hI h c), (d, hI h d)] q
  simp only [wLf]
  by_cases h1 : q = a
  · rw [if_pos h1, if_pos h1]
  · rw [if_neg h1, if_neg h1]
    by_cases h2 : q = b
    · rw [if_pos h2, if_pos h2]
    · rw [if_neg h2, if_neg h2]
      by_cases h3 : q = c
      · rw [if_pos h3, h3]
      · rw [if_neg h3]
        by_cases h4 : q = d
        · rw [if_pos h4, h4]
        · rw [if_neg h4]
theorem NewB.fo {h h1 : Hp} {b q : Nat} (n : NewB h b h1) (hq : hK h q ≠ 0) : Fo h1 b q := by
  obtain ⟨e, ok, ⟨f1, f2, f3, f4⟩, -⟩ := n
  exact ⟨fun z => hq (z ▸ f1), fun z => hq (z ▸ f2), fun i hi z => hq (z ▸ f4 i hi)⟩
theorem NewZ.v {h h1 : Hp} {b : Nat} (n : NewZ h b h1) : vB h1 b = B_0 := by
  obtain ⟨⟨e, ok, f, z⟩, zw, zs⟩ := n
  show (hI h1 b, hI h1 (rA h1 b 12), fun i => if i < 8 then hI h1 (sh h1 b i) else fun _ => 0) = B_0
  rw [z, zw]
  have e : (fun i => if i < 8 then hI h1 (sh h1 b i) else fun _ => (0 : Int32)) = fun _ => Z_0 := by
    funext i
    by_cases c : i < 8
    · rw [if_pos c, zs i c]; rfl
    · rw [if_neg c]; rfl
  rw [e]
  rfl
/-! WHO OWNS A CELL -/
def Bc (h : Hp) (γ : Nat → Nat) (b : Nat) : Prop := BuOk h b ∧ γ b = b ∧ γ (rA h b 12) = b ∧ γ (rA h b 13) = b ∧ ∀ i, i < 8 → γ (sh h b i) = b
def Cw (h : Hp) (γ : Nat → Nat) (F Bs : List Nat) : Prop := F.Nodup ∧ (∀ q, q ∈ F → hK h q ≠ 0 ∧ hK h q ≠ 5 ∧ γ q = q) ∧ Bs.Nodup ∧ ∀ b, b ∈ Bs → Bc h γ b
theorem BuOk.kq {a b : Nat} {h h2 : Hp} (hB : BuOk h b) (k : Kp a h h2) (n5 : hK h a ≠ 5) (n26 : hK h a ≠ 26) : BuOk h2 b ∧ rA h2 b 12 = rA h b 12 ∧ rA h2 b 13 = rA h b 13 ∧ (∀ i, i < 8 → sh h2 b i = sh h b i) ∧ vB h2 b = vB h b := by
  obtain ⟨b1, b2, b3, b4, b5, b6, b7, b8, b9⟩ := id hB
  have nb : b ≠ a := fun z => n5 (z ▸ b1)
  have na : rA h b 13 ≠ a := fun z => n26 (z ▸ b6)
  obtain ⟨p1, p2, p3, p4⟩ := k b (by omega)
  obtain ⟨q1, q2, q3, q4⟩ := k (rA h b 12) (by omega)
  obtain ⟨r1, r2, r3, r4⟩ := k (rA h b 13) (by omega)
  have e12 : rA h2 b 12 = rA h b 12 := by unfold rA; rw [p2 nb]
  have e13 : rA h2 b 13 = rA h b 13 := by unfold rA; rw [p2 nb]
  have es : ∀ i, i < 8 → sh h2 b i = sh h b i := fun i hi => by
    show rA h2 (rA h2 b 13) i = rA h (rA h b 13) i
    rw [e13]
    unfold rA
    rw [show hR h2 ((hR h b 13).getD 0) = hR h ((hR h b 13).getD 0) from r2 na]
  have s : ∀ i, i < 8 → hI h2 (sh h b i) = hI h (sh h b i) ∧ hK h2 (sh h b i) = 6 := fun i hi => by
    have kz := (b8 i hi).2
    obtain ⟨s1, s2, s3, s4⟩ := k (sh h b i) (by omega)
    exact ⟨s1, s3.trans kz⟩
  refine ⟨⟨p3.trans b1, by unfold rOk; rw [p2 nb]; exact b2, by unfold rOk; rw [p2 nb]; exact b3, by rw [e12, q3]; exact b4, by rw [e12, q4]; exact b5, by rw [e13, r3]; exact b6, by rw [e13, r4]; exact b7, fun i hi => ⟨?_, by rw [es i hi]; exact (s i hi).2⟩, fun i j hi hj e => b9 i j hi hj (by rw [es i hi, es j hj] at e; exact e)⟩, e12, e13, es, ?_⟩
  · rw [e13]
    unfold rOk
    rw [r2 na]
    exact (b8 i hi).1
  · show (hI h2 b, hI h2 (rA h2 b 12), fun i => if i < 8 then hI h2 (sh h2 b i) else fun _ => 0) = (hI h b, hI h (rA h b 12), fun i => if i < 8 then hI h (sh h b i) else fun _ => 0)
    rw [p1, e12, q1]
    have : (fun i => if i < 8 then hI h2 (sh h2 b i) else fun _ => (0 : Int32)) = fun i => if i < 8 then hI h (sh h b i) else fun _ => 0 := by
      funext i
      by_cases c : i < 8
      · rw [if_pos c, if_pos c, es i c, (s i c).1]
      · rw [if_neg c, if_neg c]
    rw [this]
theorem Bc.kq {a b : Nat} {h h2 : Hp} {γ γ' : Nat → Nat} (hB : Bc h γ b) (k : Kp a h h2) (n5 : hK h a ≠ 5) (n26 : hK h a ≠ 26) (hg : ∀ q, hK h q ≠ 0 → γ' q = γ q) : Bc h2 γ' b ∧ vB h2 b = vB h b := by
  obtain ⟨c0, c1, c2, c3, c4⟩ := hB
  obtain ⟨d0, d1, d2, d3, d4⟩ := c0.kq k n5 n26
  obtain ⟨b1, b2, b3, b4, b5, b6, b7, b8, b9⟩ := id c0
  refine ⟨⟨d0, (hg b (by omega)).trans c1, by rw [d1, hg _ (by omega)]; exact c2, by rw [d2, hg _ (by omega)]; exact c3, fun i hi => ?_⟩, d4⟩
  rw [d3 i hi, hg _ (by have := (b8 i hi).2; omega)]
  exact c4 i hi
theorem Cw.kq {a : Nat} {h h2 : Hp} {γ γ' : Nat → Nat} {F Bs : List Nat} (c : Cw h γ F Bs) (k : Kp a h h2) (n5 : hK h a ≠ 5) (n26 : hK h a ≠ 26) (hg : ∀ q, hK h q ≠ 0 → γ' q = γ q) : Cw h2 γ' F Bs := by
  obtain ⟨c1, c2, c3, c4⟩ := c
  refine ⟨c1, fun q hq => ?_, c3, fun b hb => ((c4 b hb).kq k n5 n26 hg).1⟩
  obtain ⟨d1, d2, d3⟩ := c2 q hq
  rw [(k q d1).2.2.1, hg q d1]
  exact ⟨d1, d2, d3⟩
/-- new cells of their own -/
def γo (h : Hp) (γ : Nat → Nat) : Nat → Nat := fun q => if hK h q = 0 then q else γ q
def γb (h : Hp) (γ : Nat → Nat) (b : Nat) : Nat → Nat := fun q => if hK h q = 0 then b else γ q
theorem Cw.obj {a : Nat} {h h2 : Hp} {γ : Nat → Nat} {F Bs l : List Nat} (c : Cw h γ F Bs) (k : Kp a h h2) (n5 : hK h a ≠ 5) (n26 : hK h a ≠ 26) (fr : Fr h l) (hl : ∀ q, q ∈ l → hK h2 q ≠ 0 ∧ hK h2 q ≠ 5) : Cw h2 (γo h γ) (l ++ F) Bs := by
  obtain ⟨c1, c2, c3, c4⟩ := c.kq (γ' := γo h γ) k n5 n26 (fun q hq => if_neg hq)
  refine ⟨List.nodup_append.mpr ⟨fr.1, c1, fun q hq r hr e => ?_⟩, fun q hq => ?_, c3, c4⟩
  · subst e
    exact (c.2.1 q hr).1 (fr.2 q hq)
  · rcases List.mem_append.mp hq with z | z
    · exact ⟨(hl q z).1, (hl q z).2, if_pos (fr.2 q z)⟩
    · exact c2 q z
theorem Cw.bu {h h2 : Hp} {γ : Nat → Nat} {F Bs : List Nat} {b : Nat} (c : Cw h γ F Bs) (n : NewB h b h2) (hx : ∃ x, hK h x ≠ 0 ∧ hK h x ≠ 5 ∧ hK h x ≠ 26) : Cw h2 (γb h γ b) F (b :: Bs) := by
  obtain ⟨x, x0, x5, x26⟩ := hx
  obtain ⟨e, ok, ⟨f1, f2, f3, f4⟩, -⟩ := n
  obtain ⟨c1, c2, c3, c4⟩ := c.kq (γ' := γb h γ b) (Kp.of x e) x5 x26 (fun q hq => if_neg hq)
  refine ⟨c1, c2, List.nodup_cons.mpr ⟨fun z => ?_, c3⟩, fun d hd => ?_⟩
  · have := (c.2.2.2 b z).1.1
    omega
  · rcases List.mem_cons.mp hd with rfl | z
    · exact ⟨ok, if_pos f1, if_pos f2, if_pos f3, fun i hi => if_pos (f4 i hi)⟩
    · exact c4 d z
set_option maxRecDepth 20000 in
theorem cn_PA_first {E : En} {h : Hp} {pa ip bt rw' sc : Nat} (hP : PaOk h pa ip rw' sc) (hi : InOk h ip bt) (nd : [ip, bt, pa, rw'].Nodup) (z1 : hI h ip = Z_0) (z2 : hI h bt = Z_0) (z3 : hI h pa = Z_0) (z4 : hI h rw' = Z_0) : CT E m_PA_readFirstSetup [.ref pa] h 11 156 (fun v h9 => ∃ b h1, NewZ h b h1 ∧ v = some (.ref b) ∧ h9 = wL (wB h1 b Y_0.2.2.2) [(ip, rF Z_0 0 Y_0.2.1.1), (bt, T_0), (pa, rP Z_0 Y_0.2.1.2), (rw', Y_0.2.2.1)]) noX := by
  refine ct_of rfl (by decide +kernel) (Nat.le_of_ble_eq_true rfl) ?_
  show G E m_PA_readFirstSetup 0 [(0, .ref pa)] [] h (0 + 11) (0 + 156) _ noX
  refine g_mkBz (pc := 0) d_PA_readFirstSetup_0 cl_PA_29 d_PA_readFirstSetup_3 d_PA_readFirstSetup_4 rfl st_PA_readFirstSetup_31 (Nat.le_of_ble_eq_true rfl) (fun b h1 nb => ?_)
  obtain ⟨e, hB, -, -⟩ := id nb.1
  have lv1 : hK h ip ≠ 0 := by have := hi.1; omega
  have lv2 : hK h bt ≠ 0 := by have := hi.2.2.1; omega
  have lv3 : hK h pa ≠ 0 := by have := hP.1; omega
  have lv4 : hK h rw' ≠ 0 := by have := hP.2.2.2.2.1; omega
  have nbq : ∀ q, hK h q ≠ 0 → q ≠ b := fun q hq z => hq (z ▸ nb.1.2.2.1.1)
  have hP1 := hP.kp (Kp.of b e) (nbq pa lv3)
  have hi1 := hi.kp (Kp.of b e) (nbq ip lv1)
  have y1 : hI h1 ip = Z_0 := (e ip lv1).1.trans z1
  have y2 : hI h1 bt = Z_0 := (e bt lv2).1.trans z2
  have y3 : hI h1 pa = Z_0 := (e pa lv3).1.trans z3
  have y4 : hI h1 rw' = Z_0 := (e rw' lv4).1.trans z4
  have fo : ∀ a, a ∈ [ip, bt, pa, rw'] → Fo h1 b a := fun a ha => nb.1.fo (by
    simp only [List.mem_cons, List.not_mem_nil, or_false] at ha
    rcases ha with rfl | rfl | rfl | rfl <;> assumption)
  have nd2 : [ip, bt].Nodup := by
    simp only [List.nodup_cons, List.mem_cons, List.not_mem_nil, or_false, not_or] at nd ⊢
    exact ⟨nd.1.1, fun z => z, List.nodup_nil⟩
  have e1 : h1 = wL h1 [(ip, TF Z_0 0 0 0 0 0), (bt, Z_0)] := by
    have k := wL_self (h := h1) (L := [ip, bt])
    simp only [List.map] at k
    rw [y1, y2] at k
    rw [TF0]
    exact k.symm
  have e2 : wL h1 [(ip, TF Z_0 136 0 0 0 0), (bt, T_0)] = wL (wB h1 b B_0) [(ip, rF Z_0 136 (0, 0, 0, 0)), (bt, T_0), (pa, rP Z_0 (0, 0, 0)), (rw', Z_0)] := by
    rw [wL_more (c := pa) (d := rw'), y3, y4, ← nb.v, wB_v, rP0]
    rfl
  have k_pa := hP1.1
  have r_pa_0 := hP1.2.1
  have k_ip := hi1.1
  refine g_astore_n (pc := 7) (lv' := [(1, .ref b), (0, .ref pa)]) d_PA_readFirstSetup_7 rfl (by decide) rfl ?_
  refine g_aload_n (pc := 8) d_PA_readFirstSetup_8 rfl 1 rfl ?_
  refine g_getR (pc := 9) (ci := 1) (f := 0) (b := ip) rfl r_pa_0 d_PA_readFirstSetup_9 fl_PA_12 (by decide) k_pa ?_
  refine g_ldcs (pc := 12) d_PA_readFirstSetup_12 0 rfl ?_
  refine g_h e1 ?_
  refine g_cV0 (pc := 14) (ci := 2) (As := [.ref _]) d_PA_readFirstSetup_14 rfl mv_IN_putText st_PA_readFirstSetup_34 rfl rfl (by decide) rfl rfl (Nat.le_of_ble_eq_true rfl) k_ip (cx_IN_putText (R := []) hi1 nd2 (by decide) (by decide)) ?_
  refine g_h e2 ?_
  refine g_aload_n (pc := 17) d_PA_readFirstSetup_17 rfl 1 rfl ?_
  refine g_aload_n (pc := 18) d_PA_readFirstSetup_18 rfl 0 rfl ?_
  refine g_cV1 (pc := 19) (ci := 1) (As := [.ref _]) d_PA_readFirstSetup_19 rfl mv_PA_readSetup st_PA_readFirstSetup_38 rfl rfl (by decide) rfl rfl (Nat.le_of_ble_eq_true rfl) k_pa (cx_PA_readSetup (R := []) (q := ((0, 0, 0, 0), 0, 0, 0)) hi1 hP1 nd (by decide) hB fo) ?_
  refine g_pop (pc := 22) d_PA_readFirstSetup_22 rfl ?_
  refine g_aload_n (pc := 23) d_PA_readFirstSetup_23 rfl 1 rfl ?_
  refine g_getR (pc := 24) (ci := 1) (f := 0) (b := ip) rfl r_pa_0 d_PA_readFirstSetup_24 fl_PA_12 (by decide) k_pa ?_
  refine g_iconst (pc := 27) (v := 0) d_PA_readFirstSetup_27 (by decide) ?_
  refine g_lpI0 (pc := 28) (ci := 2) (f := 1) rfl d_PA_readFirstSetup_28 fl_PA_42 (fun q hq => by cases hq; exact rfl) rfl rfl (by decide) k_ip nd ?_
  refine g_h (h' := wL (wB h1 b Y_0.2.2.2) [(ip, rF Z_0 0 Y_0.2.1.1), (bt, T_0), (pa, rP Z_0 Y_0.2.1.2), (rw', Y_0.2.2.1)]) (by rw [TF_len']; rfl) ?_
  refine g_aload_n (pc := 31) d_PA_readFirstSetup_31 rfl 0 rfl ?_
  refine g_aret (pc := 32) d_PA_readFirstSetup_32 rfl (by first | exact Or.inl ⟨_, rfl⟩ | exact Or.inr ⟨_, rfl⟩) ?_
  exact ⟨b, h1, nb, rfl, rfl⟩
