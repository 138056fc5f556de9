/-! WHAT A CALL ANSWERS: the class, then the model -/
def LOK (h : Hp) (A : Nat → Nat) (i : Nat) : Prop := ∃ γ s, LI h A γ s i
def AnsW (E : En) (W M' : Mt) (f : Int32 → Int64) (as : List Value) (h : Hp) (A : Nat → Nat) (i : Nat) : Prop :=
  CT E W (.ref (A 22) :: as ++ [.ref (A 0)]) h 11 156 (fun r h1 => ∃ (code : Nat) (z : Int64), code ≤ 2 ∧ r = some (.int (nI code)) ∧ hK h1 (A 8) = 8 ∧ (code = 0 → hJ h1 (A 0) 0 = z) ∧ CT E M' (.ref (A 8) :: as) h1 0 0 (fun y h2 => ∃ yv, y = some (.int yv) ∧ hI h2 (A 8) 17 = nI code ∧ (code = 0 → f yv = z) ∧ hJ h2 (A 0) 0 = hJ h1 (A 0) 0 ∧ LOK h2 A (i + 1)) noX) noX
/-- both answer at once, nothing thrown -/
def AnsD (E : En) (F M' : Mt) (as : List Value) (h : Hp) (A : Nat → Nat) (i : Nat) : Prop :=
  CT E F (.ref (A 22) :: as) h 0 0 (fun r h1 => ∃ z : Int32, r = some (.int z) ∧ hK h1 (A 8) = 8 ∧ CT E M' (.ref (A 8) :: as) h1 0 0 (fun y h2 => y = some (.int z) ∧ LOK h2 A (i + 1)) noX) noX
theorem shop_dec (sc : Nat) (s8 : sc ≤ 8) (v : Int32) : (∃ j, j < sc ∧ v = nI j) ∨ (v < 0 ∨ nI sc ≤ v) := by
  by_cases c : v < 0
  · exact Or.inr (Or.inl c)
  · have h0 : ¬ v.toInt < 0 := fun z => c ((i_lt _ _).mpr z)
    have e := nat_of (v := v) (by omega)
    by_cases k : v.toInt.toNat < sc
    · exact Or.inl ⟨_, k, e⟩
    · refine Or.inr (Or.inr ((i_le _ _).mpr ?_))
      rw [nI_toInt (by omega)]
      omega
theorem num_dec (lo hi : Int32) (v : Int32) : (lo ≤ v ∧ v ≤ hi) ∨ (v < lo ∨ hi < v) := by
  by_cases c : lo ≤ v
  · by_cases k : v ≤ hi
    · exact Or.inl ⟨c, k⟩
    · exact Or.inr (Or.inr (Int32.not_le.mp k))
  · exact Or.inr (Or.inl (Int32.not_le.mp c))
theorem Fx.nd2 {h : Hp} {A γ : Nat → Nat} (F : Fx h A γ) : ((A 8) :: (A 7) :: (([] : List (Nat × (Nat → Int32))).map Prod.fst)).Nodup := by
  simp only [List.map_nil, List.nodup_cons, List.mem_cons, List.not_mem_nil, or_false, not_false_eq_true, List.nodup_nil, and_true]
  exact F.ne (by decide) (by decide) (by decide)
/-- what stands at a call -/
theorem LI.now {h : Hp} {A γ : Nat → Nat} {s : Sv} {i : Nat} (L : LI h A γ s i) : ∃ (nw sc ni U b sp : Nat) (B : Bu), sD s 0 = (nw, sc, ni, B) ∧ (hK h (A 22) = 1 ∧ hR h (A 22) 2 = some b ∧ hR h (A 22) 3 = some sp) ∧ (BuOk h b ∧ BuOk h sp ∧ Dis h sp b) ∧ vB h b = B ∧ wB h b B = h ∧ 0 < nw ∧ Gd B nw sc ni U ∧ Pb U B sc ∧ U + 26 * sN s ≤ 520 * i := by
  obtain ⟨c, ns, ci, m, p1, p2, U, p3, p4⟩ := L
  obtain ⟨c1, c2, c3, c4, ⟨sp, c5⟩, c6⟩ := c
  obtain ⟨b, b1, b2⟩ := c6 0 (by decide) (Or.inl rfl)
  obtain ⟨w0, g, p⟩ := p4 0 (by decide) (Or.inl rfl)
  have hb := c4.1 0 b (by decide) b1
  have hsp := c4.1 11 sp (by decide) c5
  have n : sp ≠ b := fun z => absurd (c4.2 11 0 sp (by decide) (by decide) c5 (by rw [z]; exact b1)) (by decide)
  refine ⟨(sD s 0).1, (sD s 0).2.1, (sD s 0).2.2.1, U, b, sp, (sD s 0).2.2.2, rfl, ⟨c1.1.1, b1, c5⟩, ⟨hb.1, hsp.1, hsp.dis hb n⟩, b2, by rw [← b2]; exact wB_v, w0, g, p, p3⟩
theorem LI.sh {h h2 : Hp} {A γ : Nat → Nat} {s : Sv} {i : Nat} (L : LI h A γ s i) (e : Sh2 h h2) (e2 : hI h2 = hI h) : LI h2 A γ s i := by
  obtain ⟨c, ns, ci, m, p⟩ := L
  refine ⟨c.sh e (fun t b _ _ B => ?_), ns.sh e, ci.fr (fun k _ _ => by rw [e2]), m.fr (fun k _ => by rw [e2]), p⟩
  exact vB_fix c.2.2.1 B e (fun q _ => by rw [e2])
theorem LI.out {h : Hp} {A γ : Nat → Nat} {s : Sv} {i k : Nat} {z : Int64} {a : Nat} (L : LI h A γ s i) : LI (sJ h a k z) A γ s i := L.sh ⟨rfl, rfl, rfl⟩ rfl
theorem LI.spare {h : Hp} {A γ : Nat → Nat} {s : Sv} {i sp : Nat} {F : Bu} (L : LI h A γ s i) (e : hR h (A 22) 3 = some sp) : LI (wB h sp F) A γ s i := by
  obtain ⟨c, ns, ci, m, p⟩ := L
  have hb : bA h A 11 = some sp := e
  exact ⟨c.setB (by decide) hb (fun u hu v n => ⟨v, rfl⟩) (fun z => absurd z (by decide)), ns.sh ⟨rfl, rfl, rfl⟩, ci.fr (fun k _ hk => wB_fix c (by decide) hb hk), m.fr (fun k hk => wB_fix c (by decide) hb (by omega)), p⟩
/-- the model's fields and row change, but for what counts -/
theorem LI.mo {h : Hp} {A γ : Nat → Nat} {s : Sv} {i : Nat} {c' G' : Nat → Int32} (L : LI h A γ s i) (hc : ∀ k, k ∈ [1, 2, 5, 6, 7, 16] → c' k = hI h (A 8) k) (hG : ∀ q, q < 1540 → G' q = hI h (A 7) q) : LI (wL h (((A 8), c') :: ((A 7), G') :: [])) A γ s i := by
  obtain ⟨c, ns, ci, m, p⟩ := L
  have F := c.2.2.1
  have e : wL h (((A 8), c') :: ((A 7), G') :: []) = wA h A [(8, c'), (7, G')] := rfl
  have hl : ∀ p : Nat × (Nat → Int32), p ∈ [(8, c'), (7, G')] → p.1 < 23 := fun p hp => by
    simp only [List.mem_cons, List.not_mem_nil, or_false] at hp
    rcases hp with rfl | rfl
    · exact (by decide : 8 < 23)
    · exact (by decide : 7 < 23)
  have a8 : hI (wA h A [(8, c'), (7, G')]) (A 8) = c' := wA_at F (by decide) hl
  have a7 : hI (wA h A [(8, c'), (7, G')]) (A 7) = G' := wA_at F (by decide) hl
  have ao : ∀ k, k < 23 → k ≠ 8 → k ≠ 7 → hI (wA h A [(8, c'), (7, G')]) (A k) = hI h (A k) := fun k hk n8 n7 => by
    rw [wA_at F hk hl, List.find?_cons, show (8 == k) = false from beq_eq_false_iff_ne.mpr (Ne.symm n8), List.find?_cons, show (7 == k) = false from beq_eq_false_iff_ne.mpr (Ne.symm n7)]
    rfl
  rw [e]
  refine ⟨c.setA hl, ns.sh ⟨rfl, rfl, rfl⟩, ci.fr (fun k h1 h2 => ao k h2 (by omega) (by omega)), ?_, p⟩
  obtain ⟨m1, m2, m3, m4, m5, m6⟩ := m
  unfold ME
  rw [a8, a7, ao 5 (by decide) (by decide) (by decide), ao 2 (by decide) (by decide) (by decide), ao 6 (by decide) (by decide) (by decide), ao 1 (by decide) (by decide) (by decide), hc 1 (by decide), hc 2 (by decide), hc 5 (by decide), hc 6 (by decide), hc 7 (by decide), hc 16 (by decide)]
  exact ⟨m1, m2, m3, m4, m5, fun t ht v => (m6 t ht v).cong (fun q hq => hG _ (by omega))⟩
theorem LI.mform {h : Hp} {A γ : Nat → Nat} {s : Sv} {i nw sc ni : Nat} {B : Bu} (L : LI h A γ s i) (d : sD s 0 = (nw, sc, ni, B)) (n6 : nw ≤ 6) (s8 : sc ≤ 8) : MoOk h (A 8) (A 7) ∧ enc nw sc B (hI h (A 7)) = hI h (A 7) ∧ hI h (A 7) 12 = P_money B.2.2 sc ∧ wL h (((A 8), hI h (A 8)) :: ((A 7), enc nw sc B (hI h (A 7))) :: []) = h := by
  obtain ⟨c, ns, ci, m, p⟩ := L
  have z := m.2.2.2.2.2 0 (by decide) (Or.inl rfl)
  rw [d] at z
  have e := z.z n6 s8
  obtain ⟨k1, k2, k3, k4, -⟩ := c.2.1.1
  refine ⟨⟨k1, k2, k3, k4⟩, e, z.2, ?_⟩
  rw [e]
  have k := wL_self (h := h) (L := [(A 8), (A 7)])
  simp only [List.map] at k
  exact k
def fI : Int32 → Int64 := Int32.toInt64
def fZ : Int32 → Int64 := fun z => if z = 0 then 0 else 1
theorem c_same {E : En} {F : Mt} {as : List Value} {h : Hp} {sp : Nat} {z : Int32} (k : CR E F as h (some (.int z)) h) : CT E F as h 0 0 (fun v h1 => v = some (.int z) ∧ (h1 = h ∨ ∃ F, h1 = wB h sp F)) noX := k.mono (fun _ _ p => ⟨p.1, Or.inl p.2⟩) (fun _ _ z => z)
theorem c_spare {E : En} {F : Mt} {as : List Value} {h : Hp} {sp : Nat} {z : Int32} {F9 : Bu} (k : CR E F as h (some (.int z)) (wB h sp F9)) : CT E F as h 0 0 (fun v h1 => v = some (.int z) ∧ (h1 = h ∨ ∃ F, h1 = wB h sp F)) noX := k.mono (fun _ _ p => ⟨p.1, Or.inr ⟨F9, p.2⟩⟩) (fun _ _ z => z)
theorem c_sparE {E : En} {F : Mt} {as : List Value} {h : Hp} {sp : Nat} {z : Int32} (k : CT E F as h 0 0 (fun v h1 => v = some (.int z) ∧ ∃ F, h1 = wB h sp F) noX) : CT E F as h 0 0 (fun v h1 => v = some (.int z) ∧ (h1 = h ∨ ∃ F, h1 = wB h sp F)) noX := k.mono (fun _ _ p => ⟨p.1, Or.inr p.2⟩) (fun _ _ z => z)
/-- the model's answer and what it leaves -/
def MQ9 (E : En) (M' : Mt) (as : List Value) (A : Nat → Nat) (h1 : Hp) (c G : Nat → Int32) (y w : Int32) : Prop := CT E M' (.ref (A 8) :: as) (wL h1 (((A 8), c) :: ((A 7), G) :: [])) 0 0 (fun v h2 => v = some (.int y) ∧ ∃ G', (∀ q, q < 1540 → G' q = G q) ∧ h2 = wL h1 (((A 8), u1 c 17 w) :: ((A 7), G') :: [])) noX
theorem m_same {E : En} {M' : Mt} {as : List Value} {A : Nat → Nat} {h1 : Hp} {c G : Nat → Int32} {y w : Int32} (k : CR E M' (.ref (A 8) :: as) (wL h1 (((A 8), c) :: ((A 7), G) :: [])) (some (.int y)) (wL h1 (((A 8), u1 c 17 w) :: ((A 7), G) :: []))) : MQ9 E M' as A h1 c G y w := k.mono (fun _ _ p => ⟨p.1, G, fun _ _ => rfl, p.2⟩) (fun _ _ z => z)
theorem m_12 {E : En} {M' : Mt} {as : List Value} {A : Nat → Nat} {h1 : Hp} {c g : Nat → Int32} {nw sc : Nat} {B : Bu} {y w : Int32} (n6 : nw ≤ 6) (s8 : sc ≤ 8) (k : CR E M' (.ref (A 8) :: as) (wL h1 (((A 8), c) :: ((A 7), enc nw sc B g) :: [])) (some (.int y)) (wL h1 (((A 8), u1 c 17 w) :: ((A 7), enc nw sc B (KC (enc nw sc B g) 0 12)) :: []))) : MQ9 E M' as A h1 c (enc nw sc B g) y w := k.mono (fun _ _ p => ⟨p.1, _, fun q hq => by
  rw [enc_KC n6 s8 (by decide)]
  unfold KC
  rw [if_neg (by omega)], p.2⟩) (fun _ _ z => z)
theorem q_ok {E : En} {W F M' : Mt} {f : Int32 → Int64} {as : List Value} {h : Hp} {A γ : Nat → Nat} {s : Sv} {i nw sc ni sp : Nat} {B : Bu} {z : Int32} (L : LI h A γ s i) (d : sD s 0 = (nw, sc, ni, B)) (n6 : nw ≤ 6) (s8 : sc ≤ 8) (esp : hR h (A 22) 3 = some sp)
    (hws : ∀ {Q : Int32 → Hp → Prop}, (∀ z h9, Q z h9 → hK h9 (A 0) = 24 ∧ hL h9 (A 0) = 1) → CT E F (.ref (A 22) :: as) h 0 0 (fun v h1 => ∃ z, v = some (.int z) ∧ Q z h1) noX → CT E W (.ref (A 22) :: as ++ [.ref (A 0)]) h 11 156 (fun v h1 => v = some (.int 0) ∧ ∃ z h9, Q z h9 ∧ h1 = sJ h9 (A 0) 0 (f z)) noX)
    (hc : CT E F (.ref (A 22) :: as) h 0 0 (fun v h1 => v = some (.int z) ∧ (h1 = h ∨ ∃ F, h1 = wB h sp F)) noX)
    (hm : ∀ (h1 : Hp) (c g : Nat → Int32), MoOk h1 (A 8) (A 7) → g 12 = P_money B.2.2 sc → MQ9 E M' as A h1 c (enc nw sc B g) z 0) : AnsW E W M' f as h A i := by
  have LS : ∀ h1, (h1 = h ∨ ∃ F, h1 = wB h sp F) → LI h1 A γ s i := fun h1 e => by
    rcases e with rfl | ⟨F, rfl⟩
    · exact L
    · exact L.spare esp
  refine (hws (Q := fun z' h9 => z' = z ∧ LI h9 A γ s i) (fun z' h9 q => ⟨q.2.1.2.1.2.2.2.1, q.2.1.2.1.2.2.2.2⟩) (hc.mono (fun v h1 p => ⟨z, p.1, rfl, LS h1 p.2⟩) (fun _ _ z => z))).mono (fun v h1 p => ?_) (fun _ _ z => z)
  obtain ⟨rfl, z', h9, ⟨rfl, l9⟩, rfl⟩ := p
  have l1 : LI (sJ h9 (A 0) 0 (f z')) A γ s i := l9.out
  obtain ⟨mo, e1, e2, e3⟩ := l1.mform d n6 s8
  refine ⟨0, f z', by decide, rfl, mo.1, fun _ => ?_, ?_⟩
  · show (if (A 0) = (A 0) ∧ 0 = 0 then f z' else hJ h9 (A 0) 0) = f z'
    rw [if_pos ⟨rfl, rfl⟩]
  · have k := hm (sJ h9 (A 0) 0 (f z')) (hI (sJ h9 (A 0) 0 (f z')) (A 8)) (hI (sJ h9 (A 0) 0 (f z')) (A 7)) mo e2
    unfold MQ9 at k
    rw [e3] at k
    refine k.mono (fun y h2 p => ?_) (fun _ _ z => z)
    obtain ⟨rfl, G', g1, rfl⟩ := p
    refine ⟨z', rfl, ?_, fun _ => rfl, rfl, γ, s, (l1.mo (fun k hk => ?_) (fun q hq => ?_)).mono (Nat.le_succ i)⟩
    · show wLf _ _ (A 8) 17 = _
      simp only [wLf, if_true]
      rw [u1_same]
      rfl
    · rw [u1_ne (fun z => by subst z; exact absurd hk (by decide))]
    · rw [g1 q hq, e1]
theorem q_er {E : En} {W F M' : Mt} {f : Int32 → Int64} {as : List Value} {h : Hp} {A γ : Nat → Nat} {s : Sv} {i nw sc ni code : Nat} {B : Bu} {y w : Int32} {cn : String} (L : LI h A γ s i) (d : sD s 0 = (nw, sc, ni, B)) (n6 : nw ≤ 6) (s8 : sc ≤ 8) (hcd : code = 1 ∨ code = 2) (hw : w = nI code)
    (hwe : ∀ {Q : Hp → Prop}, CT E F (.ref (A 22) :: as) h 1 6 (fun _ _ => False) (fun C h1 => C = cn ∧ Q h1) → CT E W (.ref (A 22) :: as ++ [.ref (A 0)]) h 11 156 (fun v h1 => v = some (.int w) ∧ Q h1) noX)
    (hc : CE E F (.ref (A 22) :: as) h cn)
    (hm : ∀ (h1 : Hp) (c g : Nat → Int32), MoOk h1 (A 8) (A 7) → MQ9 E M' as A h1 c (enc nw sc B g) y w) : AnsW E W M' f as h A i := by
  refine (hwe (Q := fun h1 => h1 = h) hc).mono (fun v h1 p => ?_) (fun _ _ z => z)
  obtain ⟨rfl, rfl⟩ := p
  obtain ⟨mo, e1, e2, e3⟩ := L.mform d n6 s8
  refine ⟨code, 0, by omega, by rw [hw], mo.1, fun z => by omega, ?_⟩
  have k := hm h1 (hI h1 (A 8)) (hI h1 (A 7)) mo
  unfold MQ9 at k
  rw [e3] at k
  refine k.mono (fun y' h2 p => ?_) (fun _ _ z => z)
  obtain ⟨rfl, G', g1, rfl⟩ := p
  refine ⟨y, rfl, ?_, fun z => by omega, rfl, γ, s, (L.mo (fun k hk => ?_) (fun q hq => ?_)).mono (Nat.le_succ i)⟩
  · show wLf _ _ (A 8) 17 = _
    simp only [wLf, if_true]
    rw [u1_same, hw]
  · rw [u1_ne (fun z => by subst z; exact absurd hk (by decide))]
  · rw [g1 q hq, e1]
theorem q_dir {E : En} {F M' : Mt} {as : List Value} {h : Hp} {A γ : Nat → Nat} {s : Sv} {i nw sc ni sp : Nat} {B : Bu} {z : Int32} (L : LI h A γ s i) (d : sD s 0 = (nw, sc, ni, B)) (n6 : nw ≤ 6) (s8 : sc ≤ 8) (esp : hR h (A 22) 3 = some sp)
    (hc : CT E F (.ref (A 22) :: as) h 0 0 (fun v h1 => v = some (.int z) ∧ (h1 = h ∨ ∃ F, h1 = wB h sp F)) noX)
    (hm : ∀ (h1 : Hp) (c g : Nat → Int32), MoOk h1 (A 8) (A 7) → g 12 = P_money B.2.2 sc → MQ9 E M' as A h1 c (enc nw sc B g) z 0) : AnsD E F M' as h A i := by
  have LS : ∀ h1, (h1 = h ∨ ∃ F, h1 = wB h sp F) → LI h1 A γ s i := fun h1 e => by
    rcases e with rfl | ⟨F, rfl⟩
    · exact L
    · exact L.spare esp
  refine hc.mono (fun v h1 p => ?_) (fun _ _ z => z)
  have l1 := LS h1 p.2
  obtain ⟨mo, e1, e2, e3⟩ := l1.mform d n6 s8
  refine ⟨z, p.1, mo.1, ?_⟩
  have k := hm h1 (hI h1 (A 8)) (hI h1 (A 7)) mo e2
  unfold MQ9 at k
  rw [e3] at k
  refine k.mono (fun y h2 p => ?_) (fun _ _ z => z)
  obtain ⟨rfl, G', g1, rfl⟩ := p
  refine ⟨rfl, γ, s, (l1.mo (fun k hk => ?_) (fun q hq => ?_)).mono (Nat.le_succ i)⟩
  · rw [u1_ne (fun z => by subst z; exact absurd hk (by decide))]
  · rw [g1 q hq, e1]
