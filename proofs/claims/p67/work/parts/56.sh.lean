/-! CONSTRUCTORS: Script, Input, History, StringBuilder, Parser -/
def Fr (h0 : Hp) (l : List Nat) : Prop := l.Nodup ∧ ∀ q, q ∈ l → hK h0 q = 0
theorem hK_sR9 (h : Hp) (a k : Nat) (v : Option Nat) (q : Nat) : hK (sR h a k v) q = hK h q := rfl
theorem hL_sR9 (h : Hp) (a k : Nat) (v : Option Nat) (q : Nat) : hL (sR h a k v) q = hL h q := rfl
theorem hI_sR9 (h : Hp) (a k : Nat) (v : Option Nat) (q : Nat) : hI (sR h a k v) q = hI h q := rfl
theorem hK_sI9 (h : Hp) (a k : Nat) (v : Int32) (q : Nat) : hK (sI h a k v) q = hK h q := rfl
theorem hL_sI9 (h : Hp) (a k : Nat) (v : Int32) (q : Nat) : hL (sI h a k v) q = hL h q := rfl
theorem hR_sI9 (h : Hp) (a k : Nat) (v : Int32) (q : Nat) : hR (sI h a k v) q = hR h q := rfl
theorem fresh_new {h : Hp} {a k n q : Nat} (hk : k ≠ 0) (e : hK (hNew h a k n) q = 0) : q ≠ a ∧ hK h q = 0 := by
  rw [hK_new] at e
  by_cases c : q = a
  · rw [if_pos c] at e; exact absurd e hk
  · rw [if_neg c] at e; exact ⟨c, e⟩
theorem Kp.of {h h1 : Hp} (a : Nat) (e : Ext h h1) : Kp a h h1 := fun q hq => ⟨(e q hq).1, fun _ => (e q hq).2.1, (e q hq).2.2.2.1, (e q hq).2.2.2.2⟩
theorem Kp.tr {a : Nat} {h h1 h2 : Hp} (k1 : Kp a h h1) (k2 : Kp a h1 h2) : Kp a h h2 := fun q hq => by
  obtain ⟨a1, a2, a3, a4⟩ := k1 q hq
  obtain ⟨b1, b2, b3, b4⟩ := k2 q (by rw [a3]; exact hq)
  exact ⟨b1.trans a1, fun z => (b2 z).trans (a2 z), b3.trans a3, b4.trans a4⟩
theorem Kp.sR (a : Nat) (h : Hp) (k : Nat) (v : Option Nat) : Kp a h (sR h a k v) := fun q hq => ⟨rfl, fun z => funext fun j => by rw [hR_sR, if_neg (fun y => z y.1)], rfl, rfl⟩
theorem InOk.kp {a ip bt : Nat} {h h1 : Hp} (i : InOk h ip bt) (k : Kp a h h1) (n : ip ≠ a) : InOk h1 ip bt := by
  obtain ⟨i1, i2, i3, i4⟩ := i
  obtain ⟨a1, a2, a3, a4⟩ := k ip (by omega)
  obtain ⟨b1, b2, b3, b4⟩ := k bt (by omega)
  exact ⟨a3.trans i1, by rw [a2 n]; exact i2, b3.trans i3, b4.trans i4⟩
theorem ScOk.kp {a sc vb sb nb : Nat} {h h1 : Hp} (i : ScOk h sc vb sb nb) (k : Kp a h h1) (n : sc ≠ a) : ScOk h1 sc vb sb nb := by
  obtain ⟨i1, i2, i3, i4, i5, i6, i7, i8, i9, i10⟩ := i
  obtain ⟨a1, a2, a3, a4⟩ := k sc (by omega)
  obtain ⟨b1, b2, b3, b4⟩ := k vb (by omega)
  obtain ⟨c1, c2, c3, c4⟩ := k sb (by omega)
  obtain ⟨d1, d2, d3, d4⟩ := k nb (by omega)
  exact ⟨a3.trans i1, by rw [a2 n]; exact i2, by rw [a2 n]; exact i3, by rw [a2 n]; exact i4, b3.trans i5, b4.trans i6, c3.trans i7, c4.trans i8, d3.trans i9, d4.trans i10⟩
theorem PaOk.kp {a pa ip rw' sc : Nat} {h h1 : Hp} (i : PaOk h pa ip rw' sc) (k : Kp a h h1) (n : pa ≠ a) : PaOk h1 pa ip rw' sc := by
  obtain ⟨i1, i2, i3, i4, i5, i6⟩ := i
  obtain ⟨a1, a2, a3, a4⟩ := k pa (by omega)
  obtain ⟨b1, b2, b3, b4⟩ := k rw' (by omega)
  exact ⟨a3.trans i1, by rw [a2 n]; exact i2, by rw [a2 n]; exact i3, by rw [a2 n]; exact i4, b3.trans i5, b4.trans i6⟩
theorem HiOk.kp {a hy pp : Nat} {h h1 : Hp} (i : HiOk h hy pp) (k : Kp a h h1) (n : hy ≠ a) : HiOk h1 hy pp := by
  obtain ⟨i1, i2, i3, i4⟩ := i
  obtain ⟨a1, a2, a3, a4⟩ := k hy (by omega)
  obtain ⟨b1, b2, b3, b4⟩ := k pp (by omega)
  exact ⟨a3.trans i1, by rw [a2 n]; exact i2, b3.trans i3, b4.trans i4⟩
theorem SbOk.kp {a so vb : Nat} {h h1 : Hp} (i : SbOk h so vb) (k : Kp a h h1) (n : so ≠ a) : SbOk h1 so vb := by
  obtain ⟨i1, i2, i3, i4⟩ := i
  obtain ⟨a1, a2, a3, a4⟩ := k so (by omega)
  obtain ⟨b1, b2, b3, b4⟩ := k vb (by omega)
  exact ⟨a3.trans i1, by rw [a2 n]; exact i2, b3.trans i3, b4.trans i4⟩
def ac_b : Cond.arrayClass (aTy 21) ∈ tG := tg_1 72 rfl rfl
theorem Fr.nil {h0 : Hp} : Fr h0 [] := ⟨List.nodup_nil, fun _ z => absurd z List.not_mem_nil⟩
theorem Fr.cons {h0 : Hp} {a : Nat} {l : List Nat} (f : Fr h0 l) (ha : hK h0 a = 0) (n : a ∉ l) : Fr h0 (a :: l) := ⟨List.nodup_cons.mpr ⟨n, f.1⟩, fun q hq => by
  rcases List.mem_cons.mp hq with rfl | z
  · exact ha
  · exact f.2 q z⟩
theorem oi_SC_init : Cond.methodLink (mY m_SC_init).cls 3 objectInit ∈ tG ∧ Cond.instanceMethod objectInit ∈ tG ∧ Cond.code objectInit ⟨#[0xb1]⟩ 1 none ∈ tG := ⟨tg_1 78 rfl rfl, tg_1 34 rfl rfl, tg_1 35 rfl rfl⟩
theorem oi_IN_init : Cond.methodLink (mY m_IN_init).cls 3 objectInit ∈ tG ∧ Cond.instanceMethod objectInit ∈ tG ∧ Cond.code objectInit ⟨#[0xb1]⟩ 1 none ∈ tG := ⟨tg_1 47 rfl rfl, tg_1 34 rfl rfl, tg_1 35 rfl rfl⟩
theorem oi_HI_init : Cond.methodLink (mY m_HI_init).cls 3 objectInit ∈ tG ∧ Cond.instanceMethod objectInit ∈ tG ∧ Cond.code objectInit ⟨#[0xb1]⟩ 1 none ∈ tG := ⟨tg_2 15 rfl rfl, tg_1 34 rfl rfl, tg_1 35 rfl rfl⟩
theorem oi_PA_init : Cond.methodLink (mY m_PA_init).cls 3 objectInit ∈ tG ∧ Cond.instanceMethod objectInit ∈ tG ∧ Cond.code objectInit ⟨#[0xb1]⟩ 1 none ∈ tG := ⟨tg_1 41 rfl rfl, tg_1 34 rfl rfl, tg_1 35 rfl rfl⟩
theorem oi_AS_init : Cond.methodLink (mY m_AS_init).cls 3 objectInit ∈ tG ∧ Cond.instanceMethod objectInit ∈ tG ∧ Cond.code objectInit ⟨#[0xb1]⟩ 1 none ∈ tG := ⟨tg_2 36 rfl rfl, tg_1 34 rfl rfl, tg_1 35 rfl rfl⟩
theorem d_SC_init_0 : decode (mC m_SC_init) 0 = .ok (.aload_n 0, 1) := by decide +kernel
theorem d_SC_init_1 : decode (mC m_SC_init) 1 = .ok (.invokespecial 3, 3) := by decide +kernel
theorem d_SC_init_4 : decode (mC m_SC_init) 4 = .ok (.aload_n 0, 1) := by decide +kernel
theorem d_SC_init_5 : decode (mC m_SC_init) 5 = .ok (.bipush 20, 2) := by decide +kernel
theorem d_SC_init_7 : decode (mC m_SC_init) 7 = .ok (.newarray .int, 2) := by decide +kernel
theorem d_SC_init_9 : decode (mC m_SC_init) 9 = .ok (.putfield 9, 3) := by decide +kernel
theorem d_SC_init_12 : decode (mC m_SC_init) 12 = .ok (.aload_n 0, 1) := by decide +kernel
theorem d_SC_init_13 : decode (mC m_SC_init) 13 = .ok (.bipush 20, 2) := by decide +kernel
theorem d_SC_init_15 : decode (mC m_SC_init) 15 = .ok (.newarray .int, 2) := by decide +kernel
theorem d_SC_init_17 : decode (mC m_SC_init) 17 = .ok (.putfield 15, 3) := by decide +kernel
theorem d_SC_init_20 : decode (mC m_SC_init) 20 = .ok (.aload_n 0, 1) := by decide +kernel
theorem d_SC_init_21 : decode (mC m_SC_init) 21 = .ok (.bipush 20, 2) := by decide +kernel
theorem d_SC_init_23 : decode (mC m_SC_init) 23 = .ok (.newarray .int, 2) := by decide +kernel
theorem d_SC_init_25 : decode (mC m_SC_init) 25 = .ok (.putfield 18, 3) := by decide +kernel
theorem d_SC_init_28 : decode (mC m_SC_init) 28 = .ok (.return_, 1) := by decide +kernel
theorem d_IN_init_0 : decode (mC m_IN_init) 0 = .ok (.aload_n 0, 1) := by decide +kernel
theorem d_IN_init_1 : decode (mC m_IN_init) 1 = .ok (.invokespecial 3, 3) := by decide +kernel
theorem d_IN_init_4 : decode (mC m_IN_init) 4 = .ok (.aload_n 0, 1) := by decide +kernel
theorem d_IN_init_5 : decode (mC m_IN_init) 5 = .ok (.sipush 500, 3) := by decide +kernel
theorem d_IN_init_8 : decode (mC m_IN_init) 8 = .ok (.newarray .byte, 2) := by decide +kernel
theorem d_IN_init_10 : decode (mC m_IN_init) 10 = .ok (.putfield 9, 3) := by decide +kernel
theorem d_IN_init_13 : decode (mC m_IN_init) 13 = .ok (.return_, 1) := by decide +kernel
theorem d_HI_init_0 : decode (mC m_HI_init) 0 = .ok (.aload_n 0, 1) := by decide +kernel
theorem d_HI_init_1 : decode (mC m_HI_init) 1 = .ok (.invokespecial 3, 3) := by decide +kernel
theorem d_HI_init_4 : decode (mC m_HI_init) 4 = .ok (.aload_n 0, 1) := by decide +kernel
theorem d_HI_init_5 : decode (mC m_HI_init) 5 = .ok (.bipush 8, 2) := by decide +kernel
theorem d_HI_init_7 : decode (mC m_HI_init) 7 = .ok (.anewarray 9, 3) := by decide +kernel
theorem d_HI_init_10 : decode (mC m_HI_init) 10 = .ok (.putfield 11, 3) := by decide +kernel
theorem d_HI_init_13 : decode (mC m_HI_init) 13 = .ok (.return_, 1) := by decide +kernel
theorem d_PA_init_0 : decode (mC m_PA_init) 0 = .ok (.aload_n 0, 1) := by decide +kernel
theorem d_PA_init_1 : decode (mC m_PA_init) 1 = .ok (.invokespecial 3, 3) := by decide +kernel
theorem d_PA_init_4 : decode (mC m_PA_init) 4 = .ok (.aload_n 0, 1) := by decide +kernel
theorem d_PA_init_5 : decode (mC m_PA_init) 5 = .ok (.new 9, 3) := by decide +kernel
theorem d_PA_init_8 : decode (mC m_PA_init) 8 = .ok (.dup, 1) := by decide +kernel
theorem d_PA_init_9 : decode (mC m_PA_init) 9 = .ok (.invokespecial 11, 3) := by decide +kernel
theorem d_PA_init_12 : decode (mC m_PA_init) 12 = .ok (.putfield 12, 3) := by decide +kernel
theorem d_PA_init_15 : decode (mC m_PA_init) 15 = .ok (.aload_n 0, 1) := by decide +kernel
theorem d_PA_init_16 : decode (mC m_PA_init) 16 = .ok (.new 18, 3) := by decide +kernel
theorem d_PA_init_19 : decode (mC m_PA_init) 19 = .ok (.dup, 1) := by decide +kernel
theorem d_PA_init_20 : decode (mC m_PA_init) 20 = .ok (.invokespecial 20, 3) := by decide +kernel
theorem d_PA_init_23 : decode (mC m_PA_init) 23 = .ok (.putfield 21, 3) := by decide +kernel
theorem d_PA_init_26 : decode (mC m_PA_init) 26 = .ok (.aload_n 0, 1) := by decide +kernel
theorem d_PA_init_27 : decode (mC m_PA_init) 27 = .ok (.bipush 8, 2) := by decide +kernel
theorem d_PA_init_29 : decode (mC m_PA_init) 29 = .ok (.newarray .int, 2) := by decide +kernel
theorem d_PA_init_31 : decode (mC m_PA_init) 31 = .ok (.putfield 25, 3) := by decide +kernel
theorem d_PA_init_34 : decode (mC m_PA_init) 34 = .ok (.return_, 1) := by decide +kernel
set_option maxRecDepth 20000 in
theorem cn_SC_init {E : En} {h0 : Hp} {a : Nat} (ha : hK h0 a = 0) : CT E m_SC_init [.ref a] (hNew h0 a 4 0) 3 60 (fun v h1 => v = none ∧ Ext h0 h1 ∧ (∃ vb sb nb, ScOk h1 a vb sb nb ∧ Fr h0 [a, vb, sb, nb]) ∧ hI h1 a = fun _ => 0) noX := by
  refine ct_of rfl (by decide +kernel) (Nat.le_of_ble_eq_true rfl) ?_
  show G E m_SC_init 0 [(0, .ref a)] [] (hNew h0 a 4 0) 3 60 _ noX
  refine g_aload_n (pc := 0) d_SC_init_0 rfl 0 rfl ?_
  refine g_objInit (pc := 1) d_SC_init_1 oi_SC_init (Nat.le_of_ble_eq_true rfl) (Nat.le_of_ble_eq_true rfl) (Nat.le_of_ble_eq_true rfl) ?_
  refine g_aload_n (pc := 4) d_SC_init_4 rfl 0 rfl ?_
  refine g_bipush (pc := 5) (v := 20) d_SC_init_5 (by decide) ?_
  show G E m_SC_init 7 _ _ _ (2 + 1) (40 + 20) _ _
  refine g_newarray (pc := 7) (kd := 20) (N := 20) d_SC_init_7 ⟨by decide, by decide⟩ rfl ac_i (by decide) (by decide) (by decide) (fun u hu => ?_)
  obtain ⟨n_ua, f_u0⟩ := fresh_new (by decide) hu
  have z_u : hK h0 u = 0 := f_u0
  refine g_putFR (pc := 9) (ci := 3) (f := 0) rfl d_SC_init_9 fl_SC_9 (fun q hq => by cases hq; exact ⟨rfl, rfl⟩) rfl rfl rfl (by decide) (by simp [hK_sR9, hL_sR9, hI_sR9, hK_sI9, hL_sI9, hR_sI9, hK_new, hL_new, hI_new, hR_new, hR_sR, Ne.symm n_ua]) ?_
  refine g_aload_n (pc := 12) d_SC_init_12 rfl 0 rfl ?_
  refine g_bipush (pc := 13) (v := 20) d_SC_init_13 (by decide) ?_
  show G E m_SC_init 15 _ _ _ (1 + 1) (20 + 20) _ _
  refine g_newarray (pc := 15) (kd := 20) (N := 20) d_SC_init_15 ⟨by decide, by decide⟩ rfl ac_i (by decide) (by decide) (by decide) (fun v hv => ?_)
  obtain ⟨n_vu, f_v0⟩ := fresh_new (by decide) hv
  obtain ⟨n_va, f_v1⟩ := fresh_new (by decide) f_v0
  have z_v : hK h0 v = 0 := f_v1
  refine g_putFR (pc := 17) (ci := 3) (f := 1) rfl d_SC_init_17 fl_SC_15 (fun q hq => by cases hq; exact ⟨rfl, rfl⟩) rfl rfl rfl (by decide) (by simp [hK_sR9, hL_sR9, hI_sR9, hK_sI9, hL_sI9, hR_sI9, hK_new, hL_new, hI_new, hR_new, hR_sR, Ne.symm n_ua, Ne.symm n_va]) ?_
  refine g_aload_n (pc := 20) d_SC_init_20 rfl 0 rfl ?_
  refine g_bipush (pc := 21) (v := 20) d_SC_init_21 (by decide) ?_
  show G E m_SC_init 23 _ _ _ (0 + 1) (0 + 20) _ _
  refine g_newarray (pc := 23) (kd := 20) (N := 20) d_SC_init_23 ⟨by decide, by decide⟩ rfl ac_i (by decide) (by decide) (by decide) (fun w hw => ?_)
  obtain ⟨n_wv, f_w0⟩ := fresh_new (by decide) hw
  obtain ⟨n_wu, f_w1⟩ := fresh_new (by decide) f_w0
  obtain ⟨n_wa, f_w2⟩ := fresh_new (by decide) f_w1
  have z_w : hK h0 w = 0 := f_w2
  refine g_putFR (pc := 25) (ci := 3) (f := 2) rfl d_SC_init_25 fl_SC_18 (fun q hq => by cases hq; exact ⟨rfl, rfl⟩) rfl rfl rfl (by decide) (by simp [hK_sR9, hL_sR9, hI_sR9, hK_sI9, hL_sI9, hR_sI9, hK_new, hL_new, hI_new, hR_new, hR_sR, Ne.symm n_ua, Ne.symm n_va, Ne.symm n_wa]) ?_
  refine g_vret (pc := 28) d_SC_init_28 rfl ?_
  refine ⟨rfl, ?_, ⟨u, v, w, ?_, ?_⟩, ?_⟩
  · exact ((((((Ext.r.new ha).new hu).sR ha).new hv).sR ha).new hw).sR ha
  · refine ⟨?_, ?_, ?_, ?_, ?_, ?_, ?_, ?_, ?_, ?_⟩ <;> simp [hK_sR9, hL_sR9, hI_sR9, hK_sI9, hL_sI9, hR_sI9, hK_new, hL_new, hI_new, hR_new, hR_sR, n_ua, n_va, n_wa, n_vu, n_wu, n_wv, Ne.symm n_ua, Ne.symm n_va, Ne.symm n_wa, Ne.symm n_vu, Ne.symm n_wu, Ne.symm n_wv]
  · refine (((Fr.nil.cons z_w (by simp)).cons z_v ?_).cons z_u ?_).cons ha ?_ <;> simp [n_ua, n_va, n_wa, n_vu, n_wu, n_wv, Ne.symm n_ua, Ne.symm n_va, Ne.symm n_wa, Ne.symm n_vu, Ne.symm n_wu, Ne.symm n_wv]
  · simp [hK_sR9, hL_sR9, hI_sR9, hK_sI9, hL_sI9, hR_sI9, hK_new, hL_new, hI_new, hR_new, hR_sR, Ne.symm n_ua, Ne.symm n_va, Ne.symm n_wa]
set_option maxRecDepth 20000 in
theorem cn_IN_init {E : En} {h0 : Hp} {a : Nat} (ha : hK h0 a = 0) : CT E m_IN_init [.ref a] (hNew h0 a 3 0) 1 500 (fun v h1 => v = none ∧ Ext h0 h1 ∧ (∃ bt, InOk h1 a bt ∧ Fr h0 [a, bt] ∧ hI h1 bt = fun _ => 0) ∧ hI h1 a = fun _ => 0) noX := by
  refine ct_of rfl (by decide +kernel) (Nat.le_of_ble_eq_true rfl) ?_
  show G E m_IN_init 0 [(0, .ref a)] [] (hNew h0 a 3 0) (0 + 1) (0 + 500) _ noX
  refine g_aload_n (pc := 0) d_IN_init_0 rfl 0 rfl ?_
  refine g_objInit (pc := 1) d_IN_init_1 oi_IN_init (Nat.le_of_ble_eq_true rfl) (Nat.le_of_ble_eq_true rfl) (Nat.le_of_ble_eq_true rfl) ?_
  refine g_aload_n (pc := 4) d_IN_init_4 rfl 0 rfl ?_
  refine g_sipush (pc := 5) (v := 500) d_IN_init_5 (by decide) ?_
  refine g_newarray (pc := 8) (kd := 21) (N := 500) d_IN_init_8 ⟨by decide, by decide⟩ rfl ac_b (by decide) (by decide) (by decide) (fun u hu => ?_)
  obtain ⟨n_ua, z_u⟩ := fresh_new (by decide) hu
  refine g_putFR (pc := 10) (ci := 2) (f := 0) rfl d_IN_init_10 fl_IN_9 (fun q hq => by cases hq; exact ⟨rfl, rfl⟩) rfl rfl rfl (by decide) (by simp [hK_sR9, hL_sR9, hI_sR9, hK_sI9, hL_sI9, hR_sI9, hK_new, hL_new, hI_new, hR_new, hR_sR, Ne.symm n_ua]) ?_
  refine g_vret (pc := 13) d_IN_init_13 rfl ?_
  refine ⟨rfl, ((Ext.r.new ha).new hu).sR ha, ⟨u, ?_, ?_, ?_⟩, ?_⟩
  · refine ⟨?_, ?_, ?_, ?_⟩ <;> simp [hK_sR9, hL_sR9, hI_sR9, hK_sI9, hL_sI9, hR_sI9, hK_new, hL_new, hI_new, hR_new, hR_sR, n_ua, Ne.symm n_ua]
  · exact (Fr.nil.cons z_u (by simp)).cons ha (by simp [Ne.symm n_ua])
  · simp [hK_sR9, hL_sR9, hI_sR9, hK_sI9, hL_sI9, hR_sI9, hK_new, hL_new, hI_new, hR_new, hR_sR, n_ua]
  · simp [hK_sR9, hL_sR9, hI_sR9, hK_sI9, hL_sI9, hR_sI9, hK_new, hL_new, hI_new, hR_new, hR_sR, Ne.symm n_ua]
set_option maxRecDepth 20000 in
theorem cn_HI_init {E : En} {h0 : Hp} {a : Nat} (ha : hK h0 a = 0) : CT E m_HI_init [.ref a] (hNew h0 a 7 0) 1 8 (fun v h1 => v = none ∧ Ext h0 h1 ∧ (∃ pp, HiOk h1 a pp ∧ Fr h0 [a, pp] ∧ ∀ j, hR h1 pp j = none) ∧ hI h1 a = fun _ => 0) noX := by
  refine ct_of rfl (by decide +kernel) (Nat.le_of_ble_eq_true rfl) ?_
  show G E m_HI_init 0 [(0, .ref a)] [] (hNew h0 a 7 0) (0 + 1) (0 + 8) _ noX
  refine g_aload_n (pc := 0) d_HI_init_0 rfl 0 rfl ?_
  refine g_objInit (pc := 1) d_HI_init_1 oi_HI_init (Nat.le_of_ble_eq_true rfl) (Nat.le_of_ble_eq_true rfl) (Nat.le_of_ble_eq_true rfl) ?_
  refine g_aload_n (pc := 4) d_HI_init_4 rfl 0 rfl ?_
  refine g_bipush (pc := 5) (v := 8) d_HI_init_5 (by decide) ?_
  refine g_anewarray (pc := 7) (kd := 25) (N := 8) d_HI_init_7 (Or.inl ⟨rfl, rfl⟩) (by obtain ⟨q, hq, l1, -, -⟩ := cl_HI_9; cases hq; exact l1) (by decide) (by decide) (by decide) (fun u hu => ?_)
  obtain ⟨n_ua, z_u⟩ := fresh_new (by decide) hu
  refine g_putFR (pc := 10) (ci := 6) (f := 0) rfl d_HI_init_10 fl_HI_11 (fun q hq => by cases hq; exact ⟨rfl, rfl⟩) rfl rfl rfl (by decide) (by simp [hK_sR9, hL_sR9, hI_sR9, hK_sI9, hL_sI9, hR_sI9, hK_new, hL_new, hI_new, hR_new, hR_sR, Ne.symm n_ua]) ?_
  refine g_vret (pc := 13) d_HI_init_13 rfl ?_
  refine ⟨rfl, ((Ext.r.new ha).new hu).sR ha, ⟨u, ?_, ?_, ?_⟩, ?_⟩
  · refine ⟨?_, ?_, ?_, ?_⟩ <;> simp [hK_sR9, hL_sR9, hI_sR9, hK_sI9, hL_sI9, hR_sI9, hK_new, hL_new, hI_new, hR_new, hR_sR, n_ua, Ne.symm n_ua]
  · exact (Fr.nil.cons z_u (by simp)).cons ha (by simp [Ne.symm n_ua])
  · intro j; simp [hK_sR9, hL_sR9, hI_sR9, hK_sI9, hL_sI9, hR_sI9, hK_new, hL_new, hI_new, hR_new, hR_sR, n_ua]
  · simp [hK_sR9, hL_sR9, hI_sR9, hK_sI9, hL_sI9, hR_sI9, hK_new, hL_new, hI_new, hR_new, hR_sR, Ne.symm n_ua]
set_option maxRecDepth 20000 in
theorem cn_AS_init {E : En} {h0 : Hp} {a : Nat} (ha : hK h0 a = 0) : CT E m_AS_init [.ref a, .int 16] (hNew h0 a 9 0) 1 16 (fun v h1 => v = none ∧ Ext h0 h1 ∧ (∃ vb, SbOk h1 a vb ∧ Fr h0 [a, vb]) ∧ hI h1 a = fun _ => 0) noX := by
  refine ct_of rfl (by decide +kernel) (Nat.le_of_ble_eq_true rfl) ?_
  show G E m_AS_init 0 [(0, .ref a), (1, .int 16)] [] (hNew h0 a 9 0) (0 + 1) (0 + 16) _ noX
  refine g_aload_n (pc := 0) d_AS_init_0 rfl 0 rfl ?_
  refine g_objInit (pc := 1) d_AS_init_1 oi_AS_init (Nat.le_of_ble_eq_true rfl) (Nat.le_of_ble_eq_true rfl) (Nat.le_of_ble_eq_true rfl) ?_
  refine g_gets (pc := 4) d_AS_init_4 4 rfl (tg_2 37 rfl rfl) ?_
  show G E m_AS_init 7 _ [.int 1] _ _ _ _ _
  refine g_if_eq (pc := 7) (tgt := 25) d_AS_init_7 (by decide) (fun c => absurd c (by decide)) (fun _ => ?_)
  refine g_aload_n (pc := 10) d_AS_init_10 rfl 0 rfl ?_
  refine g_iload_n (pc := 11) d_AS_init_11 rfl 1 rfl ?_
  refine g_newarray (pc := 12) (kd := 21) (N := 16) d_AS_init_12 ⟨by decide, by decide⟩ rfl ac_b (by decide) (by decide) (by decide) (fun u hu => ?_)
  obtain ⟨n_ua, z_u⟩ := fresh_new (by decide) hu
  refine g_putR (pc := 14) (ci := 8) (f := 0) rfl d_AS_init_14 fl_AS_15 (fun q hq => by cases hq; exact rfl) rfl rfl (by decide) (by simp [hK_sR9, hL_sR9, hI_sR9, hK_sI9, hL_sI9, hR_sI9, hK_new, hL_new, hI_new, hR_new, hR_sR, Ne.symm n_ua]) ?_
  refine g_aload_n (pc := 17) d_AS_init_17 rfl 0 rfl ?_
  refine g_iconst (pc := 18) (v := 0) d_AS_init_18 (by decide) ?_
  refine g_putI (pc := 19) (ci := 8) (f := 1) rfl d_AS_init_19 fl_AS_22 (fun q hq => by cases hq; exact rfl) rfl rfl (by decide) (by simp [hK_sR9, hL_sR9, hI_sR9, hK_sI9, hL_sI9, hR_sI9, hK_new, hL_new, hI_new, hR_new, hR_sR, Ne.symm n_ua]) ?_
  refine g_goto (pc := 22) (tgt := 38) d_AS_init_22 (by decide) ?_
  refine g_vret (pc := 38) d_AS_init_38 rfl ?_
  have e1 : Ext h0 (sR (hNew (hNew h0 a 9 0) u 21 16) a 0 (some u)) := ((Ext.r.new ha).new hu).sR ha
  refine ⟨rfl, fun q hq => ?_, ⟨u, ?_, ?_⟩, ?_⟩
  · have qa : q ≠ a := fun z => hq (by rw [z]; exact ha)
    obtain ⟨y1, y2, y3, y4, y5⟩ := e1 q hq
    refine ⟨funext fun j => ?_, y2, y3, y4, y5⟩
    rw [hI_sI, if_neg (fun z => qa z.1)]
    exact congrFun y1 j
  · refine ⟨?_, ?_, ?_, ?_⟩ <;> simp [hK_sR9, hL_sR9, hI_sR9, hK_sI9, hL_sI9, hR_sI9, hK_new, hL_new, hI_new, hR_new, hR_sR, n_ua, Ne.symm n_ua]
  · exact (Fr.nil.cons z_u (by simp)).cons ha (by simp [Ne.symm n_ua])
  · funext j
    simp [hI_sI, hK_sR9, hL_sR9, hI_sR9, hK_sI9, hL_sI9, hR_sI9, hK_new, hL_new, hI_new, hR_new, hR_sR, Ne.symm n_ua]
theorem cn_SB_init {E : En} {h0 : Hp} {a : Nat} (ha : hK h0 a = 0) : CT E m_SB_init [.ref a] (hNew h0 a 9 0) 1 16 (fun v h1 => v = none ∧ Ext h0 h1 ∧ (∃ vb, SbOk h1 a vb ∧ Fr h0 [a, vb]) ∧ hI h1 a = fun _ => 0) noX := by
  refine ct_of rfl (by decide +kernel) (Nat.le_of_ble_eq_true rfl) ?_
  show G E m_SB_init 0 [(0, .ref a)] [] (hNew h0 a 9 0) (0 + 1) (0 + 16) _ noX
  refine g_aload_n (pc := 0) d_SB_init_0 rfl 0 rfl ?_
  refine g_bipush (pc := 1) (v := 16) d_SB_init_1 (by decide) ?_
  refine g_callI (kz := 1) (nz := 16) (pc := 3) (As := [.int _]) (b := a) d_SB_init_3 rfl mi_AS_init st_SB_init_1 rfl rfl (Nat.le_of_ble_eq_true rfl) (cn_AS_init ha) (fun _ _ z => z.elim) (fun v h1 z => ?_)
  obtain ⟨rfl, z2⟩ := z
  refine g_vret (pc := 6) d_SB_init_6 rfl ?_
  exact ⟨rfl, z2⟩
theorem live {h0 h1 : Hp} {a k n q : Nat} (e : Ext (hNew h0 a k n) h1) (hq : hK h1 q = 0) (hk : k ≠ 0) : q ≠ a ∧ hK h0 q = 0 := fresh_new hk (e.fresh hq)
set_option maxRecDepth 20000 in
theorem cn_PA_init {E : En} {h0 : Hp} {a : Nat} (ha : hK h0 a = 0) : CT E m_PA_init [.ref a] (hNew h0 a 2 0) 7 (cNf 2 + 500 + (cNf 3 + 60) + 8) (fun v h1 => v = none ∧ Ext h0 h1 ∧ (∃ ip bt sc vb sb nb rw', PaOk h1 a ip rw' sc ∧ InOk h1 ip bt ∧ ScOk h1 sc vb sb nb ∧ Fr h0 [a, ip, bt, sc, vb, sb, nb, rw'] ∧ (hI h1 ip = fun _ => 0) ∧ (hI h1 bt = fun _ => 0) ∧ hI h1 rw' = fun _ => 0) ∧ hI h1 a = fun _ => 0) noX := by
  refine ct_of rfl (by decide +kernel) (Nat.le_of_ble_eq_true rfl) ?_
  show G E m_PA_init 0 [(0, .ref a)] [] (hNew h0 a 2 0) 7 _ _ noX
  refine g_aload_n (pc := 0) d_PA_init_0 rfl 0 rfl ?_
  refine g_objInit (pc := 1) d_PA_init_1 oi_PA_init (Nat.le_of_ble_eq_true rfl) (Nat.le_of_ble_eq_true rfl) (Nat.le_of_ble_eq_true rfl) ?_
  refine g_aload_n (pc := 4) d_PA_init_4 rfl 0 rfl ?_
  show G E m_PA_init 5 _ _ _ (5 + 1 + 1) (8 + (60 + cNf 3) + 500 + cNf 2) _ _
  refine g_new (pc := 5) d_PA_init_5 cl_PA_9 (by decide) (fun ip hip => ?_)
  obtain ⟨n_ip, z_ip⟩ := fresh_new (by decide) hip
  refine g_dup (pc := 8) d_PA_init_8 rfl ?_
  refine g_callIN (kz := 1) (nz := 500) (pc := 9) (As := []) (b := ip) d_PA_init_9 rfl mi_IN_init st_PA_init_11 rfl rfl (Nat.le_of_ble_eq_true rfl) (cn_IN_init hip) (fun _ _ z => z.elim) (fun v h1 z => ?_)
  obtain ⟨rfl, e1, ⟨bt, i1, f1, yb1⟩, y1⟩ := z
  have la : hK (hNew h0 a 2 0) a ≠ 0 := by rw [hK_new, if_pos rfl]; decide
  have ka1 : hK h1 a = 2 := by rw [(e1 a la).2.2.2.1, hK_new, if_pos rfl]
  have ya1 : hI h1 a = fun _ => 0 := by rw [(e1 a la).1, hI_new, if_pos rfl]
  have n_bt := (fresh_new (by decide) (f1.2 bt (by simp))).1
  have z_bt := (fresh_new (by decide) (f1.2 bt (by simp))).2
  have n_ipbt : ip ≠ bt := by have := f1.1; simp at this; exact this
  refine g_putFR (pc := 12) (ci := 1) (f := 0) rfl d_PA_init_12 fl_PA_12 (fun q hq => by cases hq; exact ⟨rfl, rfl⟩) rfl rfl rfl (by decide) ka1 ?_
  refine g_aload_n (pc := 15) d_PA_init_15 rfl 0 rfl ?_
  generalize hH1 : sR h1 a 0 (some ip) = H1
  have kp1 : Kp a h1 H1 := hH1 ▸ Kp.sR a h1 0 (some ip)
  have ra1 : hR H1 a 0 = some ip := by rw [← hH1, hR_sR, if_pos ⟨rfl, rfl⟩]
  have la1 : hK h1 a ≠ 0 := by rw [ka1]; decide
  have ka2 : hK H1 a = 2 := (kp1 a la1).2.2.1.trans ka1
  have ya2 : hI H1 a = fun _ => 0 := (kp1 a la1).1.trans ya1
  have fz1 : ∀ q, hK H1 q = 0 → hK h1 q = 0 := fun q hq => by rw [← hH1] at hq; exact hq
  have e01 : Ext h0 H1 := by rw [← hH1]; exact (((Ext.r.new ha).trans e1)).sR ha
  have i2 : InOk H1 ip bt := i1.kp kp1 n_ip
  show G E m_PA_init 16 _ _ _ (1 + 3 + 1) (8 + 60 + cNf 3) _ _
  refine g_new (pc := 16) d_PA_init_16 cl_PA_18 (by decide) (fun sc hsc => ?_)
  have hz : ∀ q, hK H1 q = 0 → q ≠ a ∧ q ≠ ip ∧ q ≠ bt ∧ hK h0 q = 0 := fun q hq => by
    have h9 := fz1 q hq
    refine ⟨fun z => by rw [z] at h9; omega, fun z => by rw [z] at h9; have := i1.1; omega, fun z => by rw [z] at h9; have := i1.2.2.1; omega, (live e1 h9 (by decide)).2⟩
  refine g_dup (pc := 19) d_PA_init_19 rfl ?_
  refine g_callIN (kz := 3) (nz := 60) (pc := 20) (As := []) (b := sc) d_PA_init_20 rfl mi_SC_init st_PA_init_20 rfl rfl (Nat.le_of_ble_eq_true rfl) (cn_SC_init hsc) (fun _ _ z => z.elim) (fun v h2 z => ?_)
  obtain ⟨rfl, e2, ⟨vb, sb, nb, s1, f2⟩, -⟩ := z
  have la2 : hK H1 a ≠ 0 := by rw [ka2]; decide
  have ka3 : hK h2 a = 2 := (e2 a la2).2.2.2.1.trans ka2
  have ya3 : hI h2 a = fun _ => 0 := (e2 a la2).1.trans ya2
  have ra3 : hR h2 a 0 = some ip := by rw [(e2 a la2).2.1]; exact ra1
  have i3 : InOk h2 ip bt := i2.kp (Kp.of a e2) n_ip
  have yip3 : hI h2 ip = fun _ => 0 := by rw [(e2 ip (by have := i2.1; omega)).1, ← hH1]; exact y1
  have ybt3 : hI h2 bt = fun _ => 0 := by rw [(e2 bt (by have := i2.2.2.1; omega)).1, ← hH1]; exact yb1
  obtain ⟨m1, m2, m3, m4⟩ := hz sc (f2.2 sc (by simp))
  obtain ⟨v1, v2, v3, v4⟩ := hz vb (f2.2 vb (by simp))
  obtain ⟨u1', u2', u3, u4⟩ := hz sb (f2.2 sb (by simp))
  obtain ⟨w1, w2, w3, w4⟩ := hz nb (f2.2 nb (by simp))
  refine g_putFR (pc := 23) (ci := 1) (f := 1) rfl d_PA_init_23 fl_PA_21 (fun q hq => by cases hq; exact ⟨rfl, rfl⟩) rfl rfl rfl (by decide) ka3 ?_
  refine g_aload_n (pc := 26) d_PA_init_26 rfl 0 rfl ?_
  refine g_bipush (pc := 27) (v := 8) d_PA_init_27 (by decide) ?_
  generalize hH2 : sR h2 a 1 (some sc) = H2
  have kp2 : Kp a h2 H2 := hH2 ▸ Kp.sR a h2 1 (some sc)
  have la3 : hK h2 a ≠ 0 := by rw [ka3]; decide
  have ra4 : hR H2 a 0 = some ip ∧ hR H2 a 1 = some sc := by
    rw [← hH2, hR_sR, hR_sR]
    exact ⟨by rw [if_neg (by omega)]; exact ra3, by rw [if_pos ⟨rfl, rfl⟩]⟩
  have ka4 : hK H2 a = 2 := (kp2 a la3).2.2.1.trans ka3
  have ya4 : hI H2 a = fun _ => 0 := (kp2 a la3).1.trans ya3
  have i4 : InOk H2 ip bt := i3.kp kp2 n_ip
  have yip4 : hI H2 ip = fun _ => 0 := (kp2 ip (by have := i3.1; omega)).1.trans yip3
  have ybt4 : hI H2 bt = fun _ => 0 := (kp2 bt (by have := i3.2.2.1; omega)).1.trans ybt3
  have s4 : ScOk H2 sc vb sb nb := s1.kp kp2 m1
  have e02 : Ext h0 H2 := by rw [← hH2]; exact (e01.trans e2).sR ha
  refine g_newarray (k := 0) (n := 0) (pc := 29) (kd := 20) (N := 8) d_PA_init_29 ⟨by decide, by decide⟩ rfl ac_i (by decide) (by decide) (by decide) (fun r hr => ?_)
  have r1 : r ≠ a := fun z => by rw [z] at hr; omega
  have r2 : r ≠ ip := fun z => by rw [z] at hr; have := i4.1; omega
  have r3 : r ≠ bt := fun z => by rw [z] at hr; have := i4.2.2.1; omega
  have r4 : r ≠ sc := fun z => by rw [z] at hr; have := s4.1; omega
  have r5 : r ≠ vb := fun z => by rw [z] at hr; have := s4.2.2.2.2.1; omega
  have r6 : r ≠ sb := fun z => by rw [z] at hr; have := s4.2.2.2.2.2.2.1; omega
  have r7 : r ≠ nb := fun z => by rw [z] at hr; have := s4.2.2.2.2.2.2.2.2.1; omega
  refine g_putFR (pc := 31) (ci := 1) (f := 2) rfl d_PA_init_31 fl_PA_25 (fun q hq => by cases hq; exact ⟨rfl, rfl⟩) rfl rfl rfl (by decide) (by rw [hK_new, if_neg (Ne.symm r1)]; exact ka4) ?_
  refine g_vret (pc := 34) d_PA_init_34 rfl ?_
  have kp3 : Kp a H2 (sR (hNew H2 r 20 8) a 2 (some r)) := (Kp.of a (Ext.r.new hr)).tr (Kp.sR a _ 2 (some r))
  refine ⟨rfl, (e02.new hr).sR ha, ⟨ip, bt, sc, vb, sb, nb, r, ?_, i4.kp kp3 n_ip, s4.kp kp3 m1, ?_, ?_⟩, ?_⟩
  · refine ⟨?_, ?_, ?_, ?_, ?_, ?_⟩
    · rw [hK_sR9, hK_new, if_neg (Ne.symm r1)]; exact ka4
    · rw [hR_sR, if_neg (by omega), hR_new, if_neg (Ne.symm r1)]; exact ra4.1
    · rw [hR_sR, if_neg (by omega), hR_new, if_neg (Ne.symm r1)]; exact ra4.2
    · rw [hR_sR, if_pos ⟨rfl, rfl⟩]
    · rw [hK_sR9, hK_new, if_pos rfl]
    · rw [hL_sR9, hL_new, if_pos rfl]
  · have g2 := f2.1
    simp only [List.nodup_cons, List.mem_cons, List.not_mem_nil, or_false, not_or] at g2
    obtain ⟨⟨g3, g4, g5⟩, ⟨g6, g7⟩, g8, -⟩ := g2
    refine ((((((((Fr.nil.cons (e02.fresh hr) (by simp)).cons w4 ?_).cons u4 ?_).cons v4 ?_).cons m4 ?_).cons z_bt ?_).cons z_ip ?_).cons ha ?_) <;> simp only [List.mem_cons, List.not_mem_nil, or_false, not_or]
    · exact Ne.symm r7
    · exact ⟨g8, Ne.symm r6⟩
    · exact ⟨g6, g7, Ne.symm r5⟩
    · exact ⟨g3, g4, g5, Ne.symm r4⟩
    · exact ⟨Ne.symm m3, Ne.symm v3, Ne.symm u3, Ne.symm w3, Ne.symm r3⟩
    · exact ⟨n_ipbt, Ne.symm m2, Ne.symm v2, Ne.symm u2', Ne.symm w2, Ne.symm r2⟩
    · exact ⟨Ne.symm n_ip, Ne.symm n_bt, Ne.symm m1, Ne.symm v1, Ne.symm u1', Ne.symm w1, Ne.symm r1⟩
  · exact ⟨by rw [hI_sR9, hI_new, if_neg (Ne.symm r2)]; exact yip4, by rw [hI_sR9, hI_new, if_neg (Ne.symm r3)]; exact ybt4, by rw [hI_sR9, hI_new, if_pos rfl]⟩
  · rw [hI_sR9, hI_new, if_neg (Ne.symm r1)]; exact ya4
