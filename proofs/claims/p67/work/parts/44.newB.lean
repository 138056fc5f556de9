/-! NEW BUREAUS -/
theorem ac_i : Cond.arrayClass (aTy 20) ∈ tG := tg_1 91 rfl rfl
theorem ct_SH_init {E : En} {h : Hp} {a : Nat} : CR E m_SH_init [.ref a] h none h := by
  refine ct_of rfl (by decide +kernel) (Nat.le_of_ble_eq_true rfl) ?_
  show G E m_SH_init 0 [(0, .ref a)] [] h 0 0 _ noX
  refine g_aload_n (pc := 0) d_SH_init_0 rfl 0 rfl ?_
  refine g_objInit (pc := 1) d_SH_init_1 oi_SH_init (Nat.le_of_ble_eq_true rfl) (Nat.le_of_ble_eq_true rfl) (Nat.le_of_ble_eq_true rfl) ?_
  refine g_vret (pc := 4) d_SH_init_4 rfl ?_
  exact ⟨rfl, rfl⟩
/-- what was there stays -/
def Ext (h h1 : Hp) : Prop := ∀ q, hK h q ≠ 0 → hI h1 q = hI h q ∧ hR h1 q = hR h q ∧ hJ h1 q = hJ h q ∧ hK h1 q = hK h q ∧ hL h1 q = hL h q
theorem Ext.r {h : Hp} : Ext h h := fun _ _ => ⟨rfl, rfl, rfl, rfl, rfl⟩
theorem Ext.trans {h h1 h2 : Hp} (a : Ext h h1) (b : Ext h1 h2) : Ext h h2 := fun q hq => by
  obtain ⟨a1, a2, a3, a4, a5⟩ := a q hq
  obtain ⟨b1, b2, b3, b4, b5⟩ := b q (by rw [a4]; exact hq)
  exact ⟨b1.trans a1, b2.trans a2, b3.trans a3, b4.trans a4, b5.trans a5⟩
theorem Ext.new {h h1 : Hp} {a k n : Nat} (e : Ext h h1) (ha : hK h1 a = 0) : Ext h (hNew h1 a k n) := e.trans fun q hq => by
  have e : q ≠ a := fun e => hq (by rw [e]; exact ha)
  exact ⟨by rw [hI_new, if_neg e], by rw [hR_new, if_neg e], by rw [hJ_new, if_neg e], by rw [hK_new, if_neg e], by rw [hL_new, if_neg e]⟩
theorem Ext.sR {h h1 : Hp} {a k : Nat} {v : Option Nat} (e : Ext h h1) (ha : hK h a = 0) : Ext h (sR h1 a k v) := fun q hq => by
  obtain ⟨a1, a2, a3, a4, a5⟩ := e q hq
  have n : q ≠ a := fun z => hq (by rw [z]; exact ha)
  refine ⟨a1, ?_, a3, a4, a5⟩
  funext j
  rw [hR_sR, if_neg (fun z => n z.1)]
  exact congrFun a2 j
theorem Ext.fresh {h h1 : Hp} {q : Nat} (e : Ext h h1) (hq : hK h1 q = 0) : hK h q = 0 := Decidable.byContradiction fun z => z ((e q z).2.2.2.1.symm.trans hq)
def BI (h0 : Hp) (b w a i : Nat) (h : Hp) : Prop := Ext h0 h ∧ (hK h0 b = 0 ∧ hK h0 w = 0 ∧ hK h0 a = 0) ∧ (hK h b = 5 ∧ hR h b 12 = some w ∧ hR h b 13 = some a ∧ hK h w = 20 ∧ hL h w = 6 ∧ hK h a = 26 ∧ hL h a = 8) ∧ (hI h b = (fun _ => 0) ∧ hI h w = fun _ => 0) ∧ (∀ j, j < i → ∃ s, hR h a j = some s ∧ hK h s = 6 ∧ hK h0 s = 0 ∧ hI h s = fun _ => 0) ∧ ∀ j j', j < i → j' < i → hR h a j = hR h a j' → j = j'
theorem BI_S {h0 h : Hp} {b w a i s : Nat} (B : BI h0 b w a i h) (hs : hK h s = 0) : BI h0 b w a (i + 1) (sR (hNew h s 6 0) a i (some s)) := by
  obtain ⟨e, ⟨f1, f2, f3⟩, ⟨k1, k2, k3, k4, k5, k6, k7⟩, ⟨z1, z2⟩, ss, inj⟩ := B
  have nb : b ≠ s := fun z => by rw [z] at k1; omega
  have nw : w ≠ s := fun z => by rw [z] at k4; omega
  have na : a ≠ s := fun z => by rw [z] at k6; omega
  have nba : b ≠ a := fun z => by rw [z] at k1; omega
  have R1 : ∀ q j, q ≠ s → ¬ (q = a ∧ j = i) → hR (sR (hNew h s 6 0) a i (some s)) q j = hR h q j := fun q j h1 h2 => by rw [hR_sR, if_neg h2, hR_new, if_neg h1]
  have K1 : ∀ q, q ≠ s → hK (sR (hNew h s 6 0) a i (some s)) q = hK h q := fun q h1 => by show hK (hNew h s 6 0) q = _; rw [hK_new, if_neg h1]
  have L1 : ∀ q, q ≠ s → hL (sR (hNew h s 6 0) a i (some s)) q = hL h q := fun q h1 => by show hL (hNew h s 6 0) q = _; rw [hL_new, if_neg h1]
  have I1 : ∀ q, q ≠ s → hI (sR (hNew h s 6 0) a i (some s)) q = hI h q := fun q h1 => by show hI (hNew h s 6 0) q = _; rw [hI_new, if_neg h1]
  have Ra : hR (sR (hNew h s 6 0) a i (some s)) a i = some s := by rw [hR_sR, if_pos ⟨rfl, rfl⟩]
  have Rj : ∀ j, j < i → hR (sR (hNew h s 6 0) a i (some s)) a j = hR h a j := fun j hj => R1 a j na (fun z => by omega)
  have ns : ∀ j, j < i → hR h a j ≠ some s := fun j hj z => by
    obtain ⟨t, t1, t2, -, -⟩ := ss j hj
    rw [t1] at z
    cases z
    omega
  refine ⟨(e.new hs).sR f3, ⟨f1, f2, f3⟩, ⟨by rw [K1 b nb]; exact k1, by rw [R1 b 12 nb (fun z => nba z.1)]; exact k2, by rw [R1 b 13 nb (fun z => nba z.1)]; exact k3, by rw [K1 w nw]; exact k4, by rw [L1 w nw]; exact k5, by rw [K1 a na]; exact k6, by rw [L1 a na]; exact k7⟩, ⟨by rw [I1 b nb]; exact z1, by rw [I1 w nw]; exact z2⟩, fun j hj => ?_, fun j j' hj hj' he => ?_⟩
  · rcases Nat.lt_or_eq_of_le (Nat.le_of_lt_succ hj) with hj | rfl
    · obtain ⟨t, t1, t2, t3, t4⟩ := ss j hj
      have nt : t ≠ s := fun z => by rw [z] at t2; omega
      exact ⟨t, by rw [Rj j hj]; exact t1, by rw [K1 t nt]; exact t2, t3, by rw [I1 t nt]; exact t4⟩
    · exact ⟨s, Ra, by show hK (hNew h s 6 0) s = 6; rw [hK_new, if_pos rfl], e.fresh hs, by show hI (hNew h s 6 0) s = _; rw [hI_new, if_pos rfl]⟩
  · rcases Nat.lt_or_eq_of_le (Nat.le_of_lt_succ hj) with hj | rfl <;> rcases Nat.lt_or_eq_of_le (Nat.le_of_lt_succ hj') with hj' | rfl
    · rw [Rj j hj, Rj j' hj'] at he
      exact inj j j' hj hj' he
    · rw [Rj j hj, Ra] at he
      exact absurd he (ns j hj)
    · rw [Ra, Rj j' hj'] at he
      exact absurd he.symm (ns j' hj')
    · rfl
/-- a bureau made just now -/
def NewB (h0 : Hp) (b : Nat) (h : Hp) : Prop := Ext h0 h ∧ BuOk h b ∧ (hK h0 b = 0 ∧ hK h0 (rA h b 12) = 0 ∧ hK h0 (rA h b 13) = 0 ∧ ∀ i, i < 8 → hK h0 (sh h b i) = 0) ∧ hI h b = (fun _ => 0)
theorem rA_of {h : Hp} {a k v : Nat} (e : hR h a k = some v) : rA h a k = v := by unfold rA; rw [e]; rfl
theorem rOk_of {h : Hp} {a k v : Nat} (e : hR h a k = some v) : rOk h a k := by unfold rOk; rw [e]; rfl
theorem BI_8 {h0 h : Hp} {b w a : Nat} (B : BI h0 b w a 8 h) : NewB h0 b h := by
  obtain ⟨e, ⟨f1, f2, f3⟩, ⟨k1, k2, k3, k4, k5, k6, k7⟩, ⟨z1, z2⟩, ss, inj⟩ := B
  have e12 := rA_of k2
  have e13 := rA_of k3
  have es : ∀ i, sh h b i = rA h a i := fun i => by unfold sh; rw [e13]
  refine ⟨e, ⟨k1, rOk_of k2, rOk_of k3, by rw [e12]; exact k4, by rw [e12]; exact k5, by rw [e13]; exact k6, by rw [e13]; exact k7, fun i hi => ?_, fun i j hi hj hij => ?_⟩, ⟨f1, by rw [e12]; exact f2, by rw [e13]; exact f3, fun i hi => ?_⟩, z1⟩
  · obtain ⟨t, t1, t2, t3, t4⟩ := ss i hi
    rw [e13, es, rA_of t1]
    exact ⟨rOk_of t1, t2⟩
  · obtain ⟨t, t1, -, -, -⟩ := ss i hi
    obtain ⟨u, u1, -, -, -⟩ := ss j hj
    rw [es, es, rA_of t1, rA_of u1] at hij
    exact inj i j hi hj (by rw [t1, u1, hij])
  · obtain ⟨t, t1, t2, t3, t4⟩ := ss i hi
    rw [es, rA_of t1]
    exact t3
/-- and all its numbers are 0 -/
def NewZ (h0 : Hp) (b : Nat) (h : Hp) : Prop := NewB h0 b h ∧ (hI h (rA h b 12) = fun _ => 0) ∧ ∀ i, i < 8 → hI h (sh h b i) = fun _ => 0
theorem BI_8z {h0 h : Hp} {b w a : Nat} (B : BI h0 b w a 8 h) : NewZ h0 b h := by
  refine ⟨BI_8 B, ?_, fun i hi => ?_⟩
  · obtain ⟨e, ⟨f1, f2, f3⟩, ⟨k1, k2, k3, k4, k5, k6, k7⟩, ⟨z1, z2⟩, ss, inj⟩ := B
    rw [rA_of k2]; exact z2
  · obtain ⟨e, ⟨f1, f2, f3⟩, ⟨k1, k2, k3, k4, k5, k6, k7⟩, ⟨z1, z2⟩, ss, inj⟩ := B
    obtain ⟨t, t1, t2, t3, t4⟩ := ss i hi
    have es : sh h b i = rA h a i := by unfold sh; rw [rA_of k3]
    rw [es, rA_of t1]; exact t4
theorem lp_BU_init {E : En} {h0 : Hp} {b w a : Nat} : ∀ (d i : Nat) (h : Hp), i + d = 8 → BI h0 b w a i h → G E m_BU_init 23 [(1, .int (nI i)), (0, .ref b)] [] h d (16 * d) (fun v h1 => v = none ∧ NewZ h0 b h1) noX := by
  intro d
  induction d with
  | zero =>
    intro i h hd B
    have e8 : i = 8 := by omega
    subst e8
    refine g_iload_n (pc := 23) d_BU_init_23 rfl 0 rfl ?_
    refine g_bipush (pc := 24) (v := 8) d_BU_init_24 (by decide) ?_
    refine g_icmp_ge (pc := 26) (tgt := 48) d_BU_init_26 (by decide) (fun _ => ?_) (fun c => absurd (by decide) c)
    refine g_vret (pc := 48) d_BU_init_48 rfl ?_
    exact ⟨rfl, BI_8z B⟩
  | succ d ih =>
    intro i h hd B
    obtain ⟨e, ⟨f1, f2, f3⟩, ⟨k1, k2, k3, k4, k5, k6, k7⟩, -, -, -⟩ := id B
    refine g_iload_n (pc := 23) d_BU_init_23 rfl 0 rfl ?_
    refine g_bipush (pc := 24) (v := 8) d_BU_init_24 (by decide) ?_
    refine g_icmp_ge (pc := 26) (tgt := 48) d_BU_init_26 (by decide) (fun c => absurd ((nI_leI (a := 8) (b := i) (by omega) (by omega)).mp c) (by omega)) (fun _ => ?_)
    refine g_aload_n (pc := 29) d_BU_init_29 rfl 1 rfl ?_
    refine g_getR (pc := 30) (ci := 4) (f := 13) (b := a) rfl k3 d_BU_init_30 fl_BU_17 (by decide) k1 ?_
    refine g_iload_n (pc := 33) d_BU_init_33 rfl 0 rfl ?_
    show G E m_BU_init 34 _ _ h (d + 1) (16 * d + cNf 5) _ _
    refine g_new (pc := 34) d_BU_init_34 cl_BU_15 (by decide) (fun s hs => ?_)
    refine g_dup (pc := 37) d_BU_init_37 rfl ?_
    refine g_callIN (kz := 0) (nz := 0) (pc := 38) (As := []) (b := s) d_BU_init_38 rfl mi_SH_init st_BU_init_21 rfl rfl (Nat.le_of_ble_eq_true rfl) ct_SH_init (fun _ _ z => z.elim) (fun v h1 z => ?_)
    obtain ⟨rfl, rfl⟩ := z
    have na : a ≠ s := fun z => by rw [z] at k6; omega
    have cl : (nI i).toNatClampNeg = i := nI_clamp (by omega)
    refine g_aastore (pc := 41) (kd := 26) (ci := 5) d_BU_init_41 (Or.inr ⟨rfl, rfl⟩) (by rw [hK_new, if_neg na]; exact k6) (by rw [hK_new, if_pos rfl]) (by rw [hL_new, if_neg na, k7]; exact vp_in_nI (by omega) (by decide)) ?_
    rw [cl]
    obtain ⟨x1, hx1⟩ : ∃ y : Int32, y = nI i + 1 := ⟨_, rfl⟩
    refine g_iinc (pc := 42) (w := 0) (v := x1) (lv' := [(1, .int x1), (0, .ref b)]) d_BU_init_42 rfl (by rw [hx1]; rfl) (by decide) rfl ?_
    refine g_goto (pc := 45) (tgt := 23) d_BU_init_45 (by decide) ?_
    have e8 : x1 = nI (i + 1) := by rw [hx1]; exact nI_1 _
    rw [e8]
    exact ih (i + 1) _ (by omega) (BI_S B hs)
theorem ct_BU_init {E : En} {h0 : Hp} {b : Nat} (hb : hK h0 b = 0) : CT E m_BU_init [.ref b] (hNew h0 b 5 0) 10 142 (fun v h1 => v = none ∧ NewZ h0 b h1) noX := by
  refine ct_of rfl (by decide +kernel) (Nat.le_of_ble_eq_true rfl) ?_
  show G E m_BU_init 0 [(0, .ref b)] [] (hNew h0 b 5 0) 10 142 _ noX
  refine g_aload_n (pc := 0) d_BU_init_0 rfl 0 rfl ?_
  refine g_objInit (pc := 1) d_BU_init_1 oi_BU_init (Nat.le_of_ble_eq_true rfl) (Nat.le_of_ble_eq_true rfl) (Nat.le_of_ble_eq_true rfl) ?_
  refine g_aload_n (pc := 4) d_BU_init_4 rfl 0 rfl ?_
  refine g_bipush (pc := 5) (v := 6) d_BU_init_5 (by decide) ?_
  show G E m_BU_init 7 _ _ _ (9 + 1) (136 + 6) _ _
  refine g_newarray (pc := 7) (kd := 20) (N := 6) d_BU_init_7 ⟨by decide, by decide⟩ rfl ac_i (by decide) (by decide) (by decide) (fun w hw => ?_)
  have nw : b ≠ w := fun z => by rw [← z, hK_new, if_pos rfl] at hw; omega
  refine g_putFR (pc := 9) (ci := 4) (f := 12) rfl d_BU_init_9 fl_BU_9 (fun q hq => by cases hq; exact ⟨rfl, rfl⟩) rfl rfl rfl (by decide) (by rw [hK_new, if_neg nw, hK_new, if_pos rfl]) ?_
  refine g_aload_n (pc := 12) d_BU_init_12 rfl 0 rfl ?_
  refine g_bipush (pc := 13) (v := 8) d_BU_init_13 (by decide) ?_
  show G E m_BU_init 15 _ _ _ (8 + 1) (128 + 8) _ _
  refine g_anewarray (pc := 15) (kd := 26) (N := 8) d_BU_init_15 (Or.inr ⟨rfl, rfl⟩) (by obtain ⟨q, hq, l1, -, -⟩ := cl_BU_15; cases hq; exact l1) (by decide) (by decide) (by decide) (fun a ha => ?_)
  have ha' : hK (hNew (hNew h0 b 5 0) w 20 6) a = 0 := ha
  have na : a ≠ w := fun z => by rw [z, hK_new, if_pos rfl] at ha'; omega
  have ha2 : hK (hNew h0 b 5 0) a = 0 := by rw [hK_new, if_neg na] at ha'; exact ha'
  have nab : a ≠ b := fun z => by rw [z, hK_new, if_pos rfl] at ha2; omega
  have fw : hK h0 w = 0 := by rw [hK_new, if_neg (Ne.symm nw)] at hw; exact hw
  have fa : hK h0 a = 0 := by rw [hK_new, if_neg nab] at ha2; exact ha2
  refine g_putFR (pc := 18) (ci := 4) (f := 13) rfl d_BU_init_18 fl_BU_17 (fun q hq => by cases hq; exact ⟨rfl, rfl⟩) rfl rfl rfl (by decide) (by rw [hK_new, if_neg (Ne.symm nab)]; show hK (hNew (hNew h0 b 5 0) w 20 6) b = 5; rw [hK_new, if_neg nw, hK_new, if_pos rfl]) ?_
  refine g_iconst (pc := 21) (v := 0) d_BU_init_21 (by decide) ?_
  refine g_istore_n (pc := 22) (lv' := [(1, .int (nI 0)), (0, .ref b)]) d_BU_init_22 rfl (by decide) rfl ?_
  refine lp_BU_init (w := w) (a := a) 8 0 _ rfl ?_
  have e0 : Ext h0 (hNew h0 b 5 0) := Ext.r.new hb
  have e1 : Ext h0 (sR (hNew (hNew h0 b 5 0) w 20 6) b 12 (some w)) := (e0.new hw).sR hb
  refine ⟨(e1.new ha).sR hb, ⟨hb, fw, fa⟩, ⟨?_, ?_, ?_, ?_, ?_, ?_, ?_⟩, ⟨?_, ?_⟩, fun j hj => by omega, fun j j' hj => by omega⟩
  · show hK (hNew (hNew (hNew h0 b 5 0) w 20 6) a 26 8) b = 5
    rw [hK_new, if_neg (Ne.symm nab), hK_new, if_neg nw, hK_new, if_pos rfl]
  · rw [hR_sR, if_neg (by omega), hR_new, if_neg (Ne.symm nab), hR_sR, if_pos ⟨rfl, rfl⟩]
  · rw [hR_sR, if_pos ⟨rfl, rfl⟩]
  · show hK (hNew (hNew (hNew h0 b 5 0) w 20 6) a 26 8) w = 20
    rw [hK_new, if_neg (Ne.symm na), hK_new, if_pos rfl]
  · show hL (hNew (hNew (hNew h0 b 5 0) w 20 6) a 26 8) w = 6
    rw [hL_new, if_neg (Ne.symm na), hL_new, if_pos rfl]
  · show hK (hNew (hNew (hNew h0 b 5 0) w 20 6) a 26 8) a = 26
    rw [hK_new, if_pos rfl]
  · show hL (hNew (hNew (hNew h0 b 5 0) w 20 6) a 26 8) a = 8
    rw [hL_new, if_pos rfl]
  · show hI (hNew (hNew (hNew h0 b 5 0) w 20 6) a 26 8) b = _
    rw [hI_new, if_neg (Ne.symm nab), hI_new, if_neg nw, hI_new, if_pos rfl]
  · show hI (hNew (hNew (hNew h0 b 5 0) w 20 6) a 26 8) w = _
    rw [hI_new, if_neg (Ne.symm na), hI_new, if_pos rfl]
/-- new Bureau() -/
theorem g_mkBz {E : En} {M : Mt} {pc : Nat} {lv : List (Nat × Value)} {st : List Value} {h : Hp} {k n : Nat} {P : Option Value → Hp → Prop} {X : String → Hp → Prop} {i1 i2 : Nat} (hd : decode (mC M) pc = .ok (.new i1, 3)) (hc : CLk (mY M).cls i1 4) (hd3 : decode (mC M) (pc + 3) = .ok (.dup, 1)) (hd4 : decode (mC M) (pc + 4) = .ok (.invokespecial i2, 3)) (hh : mHh M = []) (hs : ST M i2 m_BU_init) (hcat : ((Value.ref 0 :: st).map fun v => v.category).sum ≤ 8)
    (kk : ∀ (b : Nat) (h1 : Hp), NewZ h b h1 → G E M (pc + 7) lv (.ref b :: st) h1 k n P X) : G E M pc lv st h (k + 11) (n + 156) P X := by
  show G E M pc lv st h (k + 10 + 1) (n + 142 + cNf 4) P X
  refine g_new hd hc (by decide) (fun b hb => ?_)
  refine g_dup hd3 rfl ?_
  refine g_callI (kz := 10) (nz := 142) (pc := pc + 4) (As := []) (b := b) hd4 hh mi_BU_init hs rfl rfl hcat (ct_BU_init hb) (fun _ _ z => z.elim) (fun v h1 z => ?_)
  obtain ⟨rfl, z2⟩ := z
  exact kk b h1 z2
theorem g_mkB {E : En} {M : Mt} {pc : Nat} {lv : List (Nat × Value)} {st : List Value} {h : Hp} {k n : Nat} {P : Option Value → Hp → Prop} {X : String → Hp → Prop} {i1 i2 : Nat} (hd : decode (mC M) pc = .ok (.new i1, 3)) (hc : CLk (mY M).cls i1 4) (hd3 : decode (mC M) (pc + 3) = .ok (.dup, 1)) (hd4 : decode (mC M) (pc + 4) = .ok (.invokespecial i2, 3)) (hh : mHh M = []) (hs : ST M i2 m_BU_init) (hcat : ((Value.ref 0 :: st).map fun v => v.category).sum ≤ 8)
    (kk : ∀ (b : Nat) (h1 : Hp), NewB h b h1 → G E M (pc + 7) lv (.ref b :: st) h1 k n P X) : G E M pc lv st h (k + 11) (n + 156) P X := g_mkBz hd hc hd3 hd4 hh hs hcat fun b h1 z => kk b h1 z.1
