/-! new HonestScales() -/
/-- the class's cells, by their numbers -/
def ShC (h : Hp) (A : Nat → Nat) : Prop := (hK h (A 22) = 1 ∧ hR h (A 22) 0 = some (A 14) ∧ hR h (A 22) 1 = some (A 15) ∧ hR h (A 22) 4 = some (A 12) ∧ hR h (A 22) 5 = some (A 11) ∧ hR h (A 22) 6 = some (A 9)) ∧ PaOk h (A 14) (A 15) (A 21) (A 17) ∧ InOk h (A 15) (A 16) ∧ ScOk h (A 17) (A 18) (A 19) (A 20) ∧ HiOk h (A 12) (A 13) ∧ (hK h (A 11) = 25 ∧ hL h (A 11) = 2) ∧ SbOk h (A 9) (A 10)
theorem Cw.snd {i i' : Nat → Nat → Int32} {r : (Nat → Nat → Option Nat) × (Nat → Nat → Int64) × (Nat → Nat) × (Nat → Nat)} {γ : Nat → Nat} {F Bs : List Nat} (c : Cw (i, r) γ F Bs) : Cw (i', r) γ F Bs := c
theorem xs {h h1 : Hp} {x k : Nat} {a : Option Nat} (e : Ext h h1) (lx : hK h x ≠ 0) : Kp x h (sR h1 x k a) ∧ (∀ j, j ≠ k → hR (sR h1 x k a) x j = hR h x j) ∧ hR (sR h1 x k a) x k = a := by
  refine ⟨(Kp.of x e).tr (Kp.sR x h1 k a), fun j hj => ?_, ?_⟩
  · rw [hR_sR, if_neg (fun z => hj z.2), (e x lx).2.1]
  · rw [hR_sR, if_pos ⟨rfl, rfl⟩]
/-- a bureau's numbers as a heap holds them -/
def nB (B : Bu) : Bu := (B.1, B.2.1, fun i => if i < 8 then B.2.2 i else fun _ => 0)
theorem vB_wB {h : Hp} {b : Nat} {B : Bu} (hB : BuOk h b) : vB (wB h b B) b = nB B := by
  show (hI (wB h b B) b, hI (wB h b B) (rA h b 12), fun i => if i < 8 then hI (wB h b B) (sh h b i) else fun _ => 0) = nB B
  rw [hI_wB_b, hI_wB_w hB]
  have e : (fun i => if i < 8 then hI (wB h b B) (sh h b i) else fun _ => (0 : Int32)) = fun i => if i < 8 then B.2.2 i else fun _ => 0 := by
    funext i
    by_cases c : i < 8
    · rw [if_pos c, if_pos c, hI_wB_s hB c]
    · rw [if_neg c, if_neg c]
  rw [e]
  rfl
theorem nB_s {B : Bu} {i : Nat} (h : i < 8) : (nB B).2.2 i = B.2.2 i := if_pos h
theorem Gd_nB {B : Bu} {nw sc ni U : Nat} (h : Gd B nw sc ni U) : Gd (nB B) nw sc ni U := by
  obtain ⟨⟨a1, a2, a3, a4, a5, a6, a7, a8, a9⟩, b, c⟩ := h
  refine ⟨⟨a1, a2, a3, a4, a5, a6, a7, a8, fun i hi => ?_⟩, b, fun i hi => ?_⟩
  · rw [nB_s (by omega)]; exact a9 i hi
  · rw [nB_s (by omega)]; exact c i hi
theorem d_HS_init_0 : decode (mC m_HS_init) 0 = .ok (.aload_n 0, 1) := by decide +kernel
theorem d_HS_init_1 : decode (mC m_HS_init) 1 = .ok (.invokespecial 1, 3) := by decide +kernel
theorem d_HS_init_4 : decode (mC m_HS_init) 4 = .ok (.aload_n 0, 1) := by decide +kernel
theorem d_HS_init_5 : decode (mC m_HS_init) 5 = .ok (.new 7, 3) := by decide +kernel
theorem d_HS_init_8 : decode (mC m_HS_init) 8 = .ok (.dup, 1) := by decide +kernel
theorem d_HS_init_9 : decode (mC m_HS_init) 9 = .ok (.invokespecial 9, 3) := by decide +kernel
theorem d_HS_init_12 : decode (mC m_HS_init) 12 = .ok (.putfield 10, 3) := by decide +kernel
theorem d_HS_init_15 : decode (mC m_HS_init) 15 = .ok (.aload_n 0, 1) := by decide +kernel
theorem d_HS_init_16 : decode (mC m_HS_init) 16 = .ok (.aload_n 0, 1) := by decide +kernel
theorem d_HS_init_17 : decode (mC m_HS_init) 17 = .ok (.getfield 10, 3) := by decide +kernel
theorem d_HS_init_20 : decode (mC m_HS_init) 20 = .ok (.getfield 16, 3) := by decide +kernel
theorem d_HS_init_23 : decode (mC m_HS_init) 23 = .ok (.putfield 20, 3) := by decide +kernel
theorem d_HS_init_26 : decode (mC m_HS_init) 26 = .ok (.aload_n 0, 1) := by decide +kernel
theorem d_HS_init_27 : decode (mC m_HS_init) 27 = .ok (.new 21, 3) := by decide +kernel
theorem d_HS_init_30 : decode (mC m_HS_init) 30 = .ok (.dup, 1) := by decide +kernel
theorem d_HS_init_31 : decode (mC m_HS_init) 31 = .ok (.invokespecial 23, 3) := by decide +kernel
theorem d_HS_init_34 : decode (mC m_HS_init) 34 = .ok (.putfield 24, 3) := by decide +kernel
theorem d_HS_init_37 : decode (mC m_HS_init) 37 = .ok (.aload_n 0, 1) := by decide +kernel
theorem d_HS_init_38 : decode (mC m_HS_init) 38 = .ok (.new 28, 3) := by decide +kernel
theorem d_HS_init_41 : decode (mC m_HS_init) 41 = .ok (.dup, 1) := by decide +kernel
theorem d_HS_init_42 : decode (mC m_HS_init) 42 = .ok (.invokespecial 30, 3) := by decide +kernel
theorem d_HS_init_45 : decode (mC m_HS_init) 45 = .ok (.putfield 31, 3) := by decide +kernel
theorem d_HS_init_48 : decode (mC m_HS_init) 48 = .ok (.aload_n 0, 1) := by decide +kernel
theorem d_HS_init_49 : decode (mC m_HS_init) 49 = .ok (.iconst 2, 1) := by decide +kernel
theorem d_HS_init_50 : decode (mC m_HS_init) 50 = .ok (.anewarray 21, 3) := by decide +kernel
theorem d_HS_init_53 : decode (mC m_HS_init) 53 = .ok (.putfield 35, 3) := by decide +kernel
theorem d_HS_init_56 : decode (mC m_HS_init) 56 = .ok (.aload_n 0, 1) := by decide +kernel
theorem d_HS_init_57 : decode (mC m_HS_init) 57 = .ok (.new 39, 3) := by decide +kernel
theorem d_HS_init_60 : decode (mC m_HS_init) 60 = .ok (.dup, 1) := by decide +kernel
theorem d_HS_init_61 : decode (mC m_HS_init) 61 = .ok (.invokespecial 41, 3) := by decide +kernel
theorem d_HS_init_64 : decode (mC m_HS_init) 64 = .ok (.putfield 42, 3) := by decide +kernel
theorem d_HS_init_67 : decode (mC m_HS_init) 67 = .ok (.aload_n 0, 1) := by decide +kernel
theorem d_HS_init_68 : decode (mC m_HS_init) 68 = .ok (.aload_n 0, 1) := by decide +kernel
theorem d_HS_init_69 : decode (mC m_HS_init) 69 = .ok (.getfield 10, 3) := by decide +kernel
theorem d_HS_init_72 : decode (mC m_HS_init) 72 = .ok (.invokevirtual 46, 3) := by decide +kernel
theorem d_HS_init_75 : decode (mC m_HS_init) 75 = .ok (.putfield 50, 3) := by decide +kernel
theorem d_HS_init_78 : decode (mC m_HS_init) 78 = .ok (.return_, 1) := by decide +kernel
theorem oi_HS_init : Cond.methodLink (mY m_HS_init).cls 1 objectInit ∈ tG ∧ Cond.instanceMethod objectInit ∈ tG ∧ Cond.code objectInit ⟨#[0xb1]⟩ 1 none ∈ tG := ⟨tg_1 33 rfl rfl, tg_1 34 rfl rfl, tg_1 35 rfl rfl⟩
theorem cl_HS_39 : CLk "HonestScales" 39 8 := ⟨_, rfl, tg_2 28 rfl rfl, tg_2 29 rfl rfl, tg_1 9 rfl rfl⟩
set_option maxRecDepth 20000 in
theorem cn_HS_init {E : En} {h0 : Hp} {x : Nat} (hx : hK h0 x = 0) : CT E m_HS_init [.ref x] (hNew h0 x 1 0) 35 929 (fun v h9 => v = none ∧ ∃ pa ip bt sc vb sb nb rw' hy pp sn so ob b sp, Ext h0 h9 ∧ (∀ L : Nat → Nat, ShC h9 (fun i => if i < 9 then L i else [so, ob, sn, hy, pp, pa, ip, bt, sc, vb, sb, nb, rw', x].getD (i - 9) 0)) ∧ (hR h9 x 2 = some b ∧ hR h9 x 3 = some sp ∧ (∀ j, hR h9 pp j = none) ∧ ∀ j, hR h9 sn j = none) ∧ (hI h9 ip 1 = 0 ∧ hI h9 pa 4 = 0 ∧ hI h9 pa 5 = -1 ∧ (hI h9 hy = fun _ => 0) ∧ hI h9 so = fun _ => 0) ∧ vB h9 b = nB Y_0.2.2.2 ∧ ∀ γ F, Cw h0 γ F [] → ∃ γ', Cw h9 γ' ([so, ob, sn, hy, pp, pa, ip, bt, sc, vb, sb, nb, rw', x] ++ F) [b, sp]) noX := by
  refine ct_of rfl (by decide +kernel) (Nat.le_of_ble_eq_true rfl) ?_
  show G E m_HS_init 0 [(0, .ref x)] [] (hNew h0 x 1 0) 35 929 _ noX
  generalize hH0 : hNew h0 x 1 0 = H0
  have e0 : Ext h0 H0 := hH0 ▸ Ext.r.new hx
  have kx0 : hK H0 x = 1 := by rw [← hH0, hK_new, if_pos rfl]
  have lx0 : hK H0 x ≠ 0 := by rw [kx0]; decide
  have c0 : ∀ γ F, Cw h0 γ F [] → ∃ γ', Cw H0 γ' ([x] ++ F) [] := fun γ F c => ⟨_, c.obj (Kp.of x e0) (by rw [hx]; decide) (by rw [hx]; decide) (Fr.nil.cons hx (by simp)) (fun q hq => by
    simp only [List.mem_cons, List.not_mem_nil, or_false] at hq
    subst hq
    rw [kx0]; exact ⟨by decide, by decide⟩)⟩
  refine g_aload_n (pc := 0) d_HS_init_0 rfl 0 rfl ?_
  refine g_objInit (pc := 1) d_HS_init_1 oi_HS_init (Nat.le_of_ble_eq_true rfl) (Nat.le_of_ble_eq_true rfl) (Nat.le_of_ble_eq_true rfl) ?_
  -- the parser
  refine g_aload_n (pc := 4) d_HS_init_4 rfl 0 rfl ?_
  show G E m_HS_init 5 _ _ _ (27 + 7 + 1) (345 + 578 + cNf 1) _ _
  refine g_new (pc := 5) d_HS_init_5 cl_HS_7 (by decide) (fun pa hpa => ?_)
  refine g_dup (pc := 8) d_HS_init_8 rfl ?_
  refine g_callIN (kz := 7) (nz := 578) (pc := 9) (As := []) (b := pa) d_HS_init_9 rfl mi_PA_init st_HS_init_9 rfl rfl (Nat.le_of_ble_eq_true rfl) (cn_PA_init hpa) (fun _ _ z => z.elim) (fun v h1 z => ?_)
  obtain ⟨rfl, e1, ⟨ip, bt, sc, vb, sb, nb, rw', pOk, iOk, sOk, f1, zip, zbt, zrw⟩, zpa⟩ := z
  have kx1 : hK h1 x = 1 := (e1 x lx0).2.2.2.1.trans kx0
  refine g_putFR (pc := 12) (ci := 0) (f := 0) rfl d_HS_init_12 fl_HS_10 (fun q hq => by cases hq; exact ⟨rfl, rfl⟩) rfl rfl rfl (by decide) kx1 ?_
  obtain ⟨kp1, ro1, rk1⟩ := xs (k := 0) (a := some pa) e1 lx0
  have E1 : Ext h0 (sR h1 x 0 (some pa)) := (e0.trans e1).sR hx
  have nx : ∀ q, hK H0 q = 0 → q ≠ x := fun q hq z => by rw [z, kx0] at hq; omega
  have kq1 := Kp.sR x h1 0 (some pa)
  have pOk1 := pOk.kp kq1 (nx pa hpa)
  have iOk1 := iOk.kp kq1 (nx ip (f1.2 ip (by simp)))
  have sOk1 := sOk.kp kq1 (nx sc (f1.2 sc (by simp)))
  replace zip := (kq1 ip (by have := iOk.1; omega)).1.trans zip
  replace zbt := (kq1 bt (by have := iOk.2.2.1; omega)).1.trans zbt
  replace zpa := (kq1 pa (by have := pOk.1; omega)).1.trans zpa
  replace zrw := (kq1 rw' (by have := pOk.2.2.2.2.1; omega)).1.trans zrw
  have kx2 : hK (sR h1 x 0 (some pa)) x = 1 := kx1
  generalize hH1 : sR h1 x 0 (some pa) = H1 at *
  have c1 : ∀ γ F, Cw h0 γ F [] → ∃ γ', Cw H1 γ' ([pa, ip, bt, sc, vb, sb, nb, rw'] ++ ([x] ++ F)) [] := fun γ F c => by
    obtain ⟨γ1, c⟩ := c0 γ F c
    refine ⟨_, c.obj kp1 (by rw [kx0]; decide) (by rw [kx0]; decide) f1 (fun q hq => ?_)⟩
    simp only [List.mem_cons, List.not_mem_nil, or_false] at hq
    rcases hq with rfl | rfl | rfl | rfl | rfl | rfl | rfl | rfl
    · have := pOk1.1; omega
    · have := iOk1.1; omega
    · have := iOk1.2.2.1; omega
    · have := sOk1.1; omega
    · have := sOk1.2.2.2.2.1; omega
    · have := sOk1.2.2.2.2.2.2.1; omega
    · have := sOk1.2.2.2.2.2.2.2.2.1; omega
    · have := pOk1.2.2.2.2.1; omega
  -- its input
  refine g_aload_n (pc := 15) d_HS_init_15 rfl 0 rfl ?_
  refine g_aload_n (pc := 16) d_HS_init_16 rfl 0 rfl ?_
  refine g_getR (pc := 17) (ci := 0) (f := 0) (b := pa) rfl rk1 d_HS_init_17 fl_HS_10 (by decide) kx2 ?_
  refine g_getR (pc := 20) (ci := 1) (f := 0) (b := ip) rfl pOk1.2.1 d_HS_init_20 fl_HS_16 (by decide) pOk1.1 ?_
  refine g_putFR (pc := 23) (ci := 0) (f := 1) rfl d_HS_init_23 fl_HS_20 (fun q hq => by cases hq; exact ⟨rfl, rfl⟩) rfl rfl rfl (by decide) kx2 ?_
  obtain ⟨kp2, ro2, rk2⟩ := xs (k := 1) (a := some ip) (Ext.r (h := H1)) (by rw [kx2]; decide)
  have E2 : Ext h0 (sR H1 x 1 (some ip)) := E1.sR hx
  have c2 : ∀ γ F, Cw h0 γ F [] → ∃ γ', Cw (sR H1 x 1 (some ip)) γ' ([pa, ip, bt, sc, vb, sb, nb, rw'] ++ ([x] ++ F)) [] := fun γ F c => by
    obtain ⟨γ1, c⟩ := c1 γ F c
    exact ⟨γ1, c.kq kp2 (by rw [kx2]; decide) (by rw [kx2]; decide) (fun _ _ => rfl)⟩
  have kx3 : hK (sR H1 x 1 (some ip)) x = 1 := kx2
  have lv2 : ∀ q, hK H1 q ≠ 0 → hK (sR H1 x 1 (some ip)) q ≠ 0 := fun q hq => hq
  generalize hH2 : sR H1 x 1 (some ip) = H2 at *
  -- the spare bureau
  refine g_aload_n (pc := 26) d_HS_init_26 rfl 0 rfl ?_
  show G E m_HS_init 27 _ _ _ (16 + 11) (189 + 156) _ _
  refine g_mkB (pc := 27) d_HS_init_27 cl_HS_21 d_HS_init_30 d_HS_init_31 rfl st_HS_init_23 (Nat.le_of_ble_eq_true rfl) (fun sp h3 nsp => ?_)
  obtain ⟨e3, -, -, -⟩ := id nsp
  have lx2 : hK H2 x ≠ 0 := by rw [kx3]; decide
  have kx4 : hK h3 x = 1 := (e3 x lx2).2.2.2.1.trans kx3
  refine g_putFR (pc := 34) (ci := 0) (f := 3) rfl d_HS_init_34 fl_HS_24 (fun q hq => by cases hq; exact ⟨rfl, rfl⟩) rfl rfl rfl (by decide) kx4 ?_
  obtain ⟨kp3, ro3, rk3⟩ := xs (k := 3) (a := some sp) e3 lx2
  have E3 : Ext h0 (sR h3 x 3 (some sp)) := (E2.trans e3).sR hx
  have c3 : ∀ γ F, Cw h0 γ F [] → ∃ γ', Cw (sR h3 x 3 (some sp)) γ' ([pa, ip, bt, sc, vb, sb, nb, rw'] ++ ([x] ++ F)) [sp] := fun γ F c => by
    obtain ⟨γ1, c⟩ := c2 γ F c
    exact ⟨_, (c.bu nsp ⟨x, by rw [kx3]; decide, by rw [kx3]; decide, by rw [kx3]; decide⟩).kq (Kp.sR x h3 3 (some sp)) (by rw [kx4]; decide) (by rw [kx4]; decide) (fun _ _ => rfl)⟩
  have kx5 : hK (sR h3 x 3 (some sp)) x = 1 := kx4
  generalize hH3 : sR h3 x 3 (some sp) = H3 at *
  have lx3 : hK H3 x ≠ 0 := by rw [kx5]; decide
  -- the history
  refine g_aload_n (pc := 37) d_HS_init_37 rfl 0 rfl ?_
  show G E m_HS_init 38 _ _ _ (14 + 1 + 1) (178 + 8 + cNf 6) _ _
  refine g_new (pc := 38) d_HS_init_38 cl_HS_28 (by decide) (fun hy hhy => ?_)
  refine g_dup (pc := 41) d_HS_init_41 rfl ?_
  refine g_callIN (kz := 1) (nz := 8) (pc := 42) (As := []) (b := hy) d_HS_init_42 rfl mi_HI_init st_HS_init_30 rfl rfl (Nat.le_of_ble_eq_true rfl) (cn_HI_init hhy) (fun _ _ z => z.elim) (fun v h4 z => ?_)
  obtain ⟨rfl, e4, ⟨pp, hOk, f4, zpp⟩, zhy⟩ := z
  have kx6 : hK h4 x = 1 := (e4 x lx3).2.2.2.1.trans kx5
  refine g_putFR (pc := 45) (ci := 0) (f := 4) rfl d_HS_init_45 fl_HS_31 (fun q hq => by cases hq; exact ⟨rfl, rfl⟩) rfl rfl rfl (by decide) kx6 ?_
  obtain ⟨kp4, ro4, rk4⟩ := xs (k := 4) (a := some hy) e4 lx3
  have E4 : Ext h0 (sR h4 x 4 (some hy)) := (E3.trans e4).sR hx
  have nx3 : ∀ q, hK H3 q = 0 → q ≠ x := fun q hq z => by rw [z, kx5] at hq; omega
  have kq4 := Kp.sR x h4 4 (some hy)
  have hOk4 := hOk.kp kq4 (nx3 hy hhy)
  replace zhy := (kq4 hy (by have := hOk.1; omega)).1.trans zhy
  replace zpp : ∀ j, hR (sR h4 x 4 (some hy)) pp j = none := fun j => by rw [(kq4 pp (by have := hOk.2.2.1; omega)).2.1 (nx3 pp (f4.2 pp (by simp)))]; exact zpp j
  have kx7 : hK (sR h4 x 4 (some hy)) x = 1 := kx6
  generalize hH4 : sR h4 x 4 (some hy) = H4 at *
  have lx4 : hK H4 x ≠ 0 := by rw [kx7]; decide
  have c4 : ∀ γ F, Cw h0 γ F [] → ∃ γ', Cw H4 γ' ([hy, pp] ++ ([pa, ip, bt, sc, vb, sb, nb, rw'] ++ ([x] ++ F))) [sp] := fun γ F c => by
    obtain ⟨γ1, c⟩ := c3 γ F c
    refine ⟨_, c.obj kp4 (by rw [kx5]; decide) (by rw [kx5]; decide) f4 (fun q hq => ?_)⟩
    simp only [List.mem_cons, List.not_mem_nil, or_false] at hq
    rcases hq with rfl | rfl
    · have := hOk4.1; omega
    · have := hOk4.2.2.1; omega
  -- the snapshots
  refine g_aload_n (pc := 48) d_HS_init_48 rfl 0 rfl ?_
  refine g_iconst (pc := 49) (v := 2) d_HS_init_49 (by decide) ?_
  show G E m_HS_init 50 _ _ _ (13 + 1) (176 + 2) _ _
  refine g_anewarray (pc := 50) (kd := 25) (N := 2) d_HS_init_50 (Or.inl ⟨rfl, rfl⟩) (by obtain ⟨q, hq, l1, -, -⟩ := cl_HS_21; cases hq; exact l1) (by decide) (by decide) (by decide) (fun sn hsn => ?_)
  have e5 : Ext H4 (hNew H4 sn 25 2) := Ext.r.new hsn
  have nsx : sn ≠ x := fun z => by rw [z, kx7] at hsn; omega
  refine g_putFR (pc := 53) (ci := 0) (f := 5) rfl d_HS_init_53 fl_HS_35 (fun q hq => by cases hq; exact ⟨rfl, rfl⟩) rfl rfl rfl (by decide) (by rw [hK_new, if_neg (Ne.symm nsx)]; exact kx7) ?_
  obtain ⟨kp5, ro5, rk5⟩ := xs (k := 5) (a := some sn) e5 lx4
  have E5 : Ext h0 (sR (hNew H4 sn 25 2) x 5 (some sn)) := (E4.trans e5).sR hx
  have snk : hK (sR (hNew H4 sn 25 2) x 5 (some sn)) sn = 25 ∧ hL (sR (hNew H4 sn 25 2) x 5 (some sn)) sn = 2 ∧ ∀ j, hR (sR (hNew H4 sn 25 2) x 5 (some sn)) sn j = none := by
    refine ⟨by rw [hK_sR9, hK_new, if_pos rfl], by rw [hL_sR9, hL_new, if_pos rfl], fun j => ?_⟩
    rw [hR_sR, if_neg (fun z => nsx z.1), hR_new, if_pos rfl]
  have kx8 : hK (sR (hNew H4 sn 25 2) x 5 (some sn)) x = 1 := by rw [hK_sR9, hK_new, if_neg (Ne.symm nsx)]; exact kx7
  generalize hH5 : sR (hNew H4 sn 25 2) x 5 (some sn) = H5 at *
  have lx5 : hK H5 x ≠ 0 := by rw [kx8]; decide
  have c5 : ∀ γ F, Cw h0 γ F [] → ∃ γ', Cw H5 γ' ([sn] ++ ([hy, pp] ++ ([pa, ip, bt, sc, vb, sb, nb, rw'] ++ ([x] ++ F)))) [sp] := fun γ F c => by
    obtain ⟨γ1, c⟩ := c4 γ F c
    refine ⟨_, c.obj kp5 (by rw [kx7]; decide) (by rw [kx7]; decide) (Fr.nil.cons hsn (by simp)) (fun q hq => ?_)⟩
    simp only [List.mem_cons, List.not_mem_nil, or_false] at hq
    subst hq
    have := snk.1
    omega
  -- the text of shops
  refine g_aload_n (pc := 56) d_HS_init_56 rfl 0 rfl ?_
  show G E m_HS_init 57 _ _ _ (11 + 1 + 1) (156 + 16 + cNf 8) _ _
  refine g_new (pc := 57) d_HS_init_57 cl_HS_39 (by decide) (fun so hso => ?_)
  refine g_dup (pc := 60) d_HS_init_60 rfl ?_
  refine g_callI (kz := 1) (nz := 16) (pc := 61) (As := []) (b := so) d_HS_init_61 rfl mi_SB_init st_HS_init_41 rfl rfl (Nat.le_of_ble_eq_true rfl) (cn_SB_init hso) (fun _ _ z => z.elim) (fun v h6 z => ?_)
  obtain ⟨rfl, e6, ⟨ob, bOk, f6⟩, zso⟩ := z
  have kx9 : hK h6 x = 1 := (e6 x lx5).2.2.2.1.trans kx8
  refine g_putFR (pc := 64) (ci := 0) (f := 6) rfl d_HS_init_64 fl_HS_42 (fun q hq => by cases hq; exact ⟨rfl, rfl⟩) rfl rfl rfl (by decide) kx9 ?_
  obtain ⟨kp6, ro6, rk6⟩ := xs (k := 6) (a := some so) e6 lx5
  have E6 : Ext h0 (sR h6 x 6 (some so)) := (E5.trans e6).sR hx
  have nx5 : ∀ q, hK H5 q = 0 → q ≠ x := fun q hq z => by rw [z, kx8] at hq; omega
  have kq6 := Kp.sR x h6 6 (some so)
  have bOk6 := bOk.kp kq6 (nx5 so hso)
  replace zso := (kq6 so (by have := bOk.1; omega)).1.trans zso
  have kx10 : hK (sR h6 x 6 (some so)) x = 1 := kx9
  generalize hH6 : sR h6 x 6 (some so) = H6 at *
  have lx6 : hK H6 x ≠ 0 := by rw [kx10]; decide
  have c6 : ∀ γ F, Cw h0 γ F [] → ∃ γ', Cw H6 γ' ([so, ob] ++ ([sn] ++ ([hy, pp] ++ ([pa, ip, bt, sc, vb, sb, nb, rw'] ++ ([x] ++ F))))) [sp] := fun γ F c => by
    obtain ⟨γ1, c⟩ := c5 γ F c
    refine ⟨_, c.obj kp6 (by rw [kx8]; decide) (by rw [kx8]; decide) f6 (fun q hq => ?_)⟩
    simp only [List.mem_cons, List.not_mem_nil, or_false] at hq
    rcases hq with rfl | rfl
    · have := bOk6.1; omega
    · have := bOk6.2.2.1; omega
  -- what stands in H6
  have K16 : Kp x H1 H6 := ((((kp2.tr kp3).tr kp4).tr kp5).tr kp6)
  have K46 : Kp x H4 H6 := kp5.tr kp6
  have npa := nx pa hpa
  have nip := nx ip (f1.2 ip (by simp))
  have nsc := nx sc (f1.2 sc (by simp))
  have pOk6 := pOk1.kp K16 npa
  have iOk6 := iOk1.kp K16 nip
  have sOk6 := sOk1.kp K16 nsc
  have hOk6 := hOk4.kp K46 (nx3 hy hhy)
  have sn6 : hK H6 sn = 25 ∧ hL H6 sn = 2 ∧ ∀ j, hR H6 sn j = none := by
    obtain ⟨q1, q2, q3, q4⟩ := kp6 sn (by have := snk.1; omega)
    exact ⟨q3.trans snk.1, q4.trans snk.2.1, fun j => by rw [q2 nsx]; exact snk.2.2 j⟩
  have pp6 : ∀ j, hR H6 pp j = none := fun j => by rw [(K46 pp (by have := hOk4.2.2.1; omega)).2.1 (nx3 pp (f4.2 pp (by simp)))]; exact zpp j
  have zip6 := (K16 ip (by have := iOk1.1; omega)).1.trans zip
  have zbt6 := (K16 bt (by have := iOk1.2.2.1; omega)).1.trans zbt
  have zpa6 := (K16 pa (by have := pOk1.1; omega)).1.trans zpa
  have zrw6 := (K16 rw' (by have := pOk1.2.2.2.2.1; omega)).1.trans zrw
  have zhy6 := (K46 hy (by have := hOk4.1; omega)).1.trans zhy
  have R0 : hR H6 x 0 = some pa := by rw [ro6 0 (by decide), ro5 0 (by decide), ro4 0 (by decide), ro3 0 (by decide), ro2 0 (by decide)]; exact rk1
  have R1 : hR H6 x 1 = some ip := by rw [ro6 1 (by decide), ro5 1 (by decide), ro4 1 (by decide), ro3 1 (by decide)]; exact rk2
  have R3 : hR H6 x 3 = some sp := by rw [ro6 3 (by decide), ro5 3 (by decide), ro4 3 (by decide)]; exact rk3
  have R4 : hR H6 x 4 = some hy := by rw [ro6 4 (by decide), ro5 4 (by decide)]; exact rk4
  have R5 : hR H6 x 5 = some sn := by rw [ro6 5 (by decide)]; exact rk5
  clear ro1 ro2 ro3 ro4 ro5 kp1 kp2 kp3 kp4 kp5 kp6
  have nd4 : [ip, bt, pa, rw'].Nodup := by
    have g := f1.1
    simp only [List.nodup_cons, List.mem_cons, List.not_mem_nil, or_false, not_or] at g ⊢
    obtain ⟨⟨g1, g2, g3, g4, g5, g6, g7⟩, ⟨k1, k2, k3, k4, k5, k6⟩, ⟨l1, l2, l3, l4, l5⟩, -⟩ := g
    exact ⟨⟨k1, Ne.symm g1, k6⟩, ⟨Ne.symm g2, l5⟩, g7, fun z => z, List.nodup_nil⟩
  -- the first setup
  refine g_aload_n (pc := 67) d_HS_init_67 rfl 0 rfl ?_
  refine g_aload_n (pc := 68) d_HS_init_68 rfl 0 rfl ?_
  refine g_getR (pc := 69) (ci := 0) (f := 0) (b := pa) rfl R0 d_HS_init_69 fl_HS_10 (by decide) kx10 ?_
  refine g_callV (k := 0) (n := 0) (kz := 11) (nz := 156) (pc := 72) (ci := 1) (As := []) d_HS_init_72 rfl mv_PA_readFirstSetup st_HS_init_46 rfl rfl (by decide) pOk6.1 rfl rfl (Nat.le_of_ble_eq_true rfl) (cn_PA_first pOk6 iOk6 nd4 zip6 zbt6 zpa6 zrw6) (fun _ _ z => z.elim) (fun v h7 z => ?_)
  obtain ⟨b, h8, nb8, rfl, rfl⟩ := z
  obtain ⟨e8, hB8, -, -⟩ := id nb8.1
  have kx11 : hK h8 x = 1 := (e8 x lx6).2.2.2.1.trans kx10
  refine g_putFR (pc := 75) (ci := 0) (f := 2) rfl d_HS_init_75 fl_HS_50 (fun q hq => by cases hq; exact ⟨rfl, rfl⟩) rfl rfl rfl (by decide) kx11 ?_
  refine g_vret (pc := 78) d_HS_init_78 rfl ?_
  -- the heap at the end
  generalize hL4 : [(ip, rF Z_0 0 Y_0.2.1.1), (bt, T_0), (pa, rP Z_0 Y_0.2.1.2), (rw', Y_0.2.2.1)] = L4
  obtain ⟨kp8, ro8, rk8⟩ := xs (k := 2) (a := some b) e8 lx6
  have E8 : Ext h0 (sR h8 x 2 (some b)) := (E6.trans e8).sR hx
  have f0 : ∀ q, hK H0 q = 0 → hK h0 q = 0 := fun q hq => e0.fresh hq
  have k4 : L4.map Prod.fst = [ip, bt, pa, rw'] := by rw [← hL4]; rfl
  have inL : ∀ q, q ∈ L4.map Prod.fst → hK H0 q = 0 := fun q hq => by
    rw [k4] at hq
    apply f1.2
    simp only [List.mem_cons, List.not_mem_nil, or_false] at hq ⊢
    rcases hq with rfl | rfl | rfl | rfl <;> simp
  have out : ∀ q, q ∉ L4.map Prod.fst → hK H6 q ≠ 0 → hI (sR (wL (wB h8 b Y_0.2.2.2) L4) x 2 (some b)) q = hI H6 q := fun q hq l6 => by
    show wLf (wB h8 b Y_0.2.2.2) L4 q = _
    rw [wLf_out hq, hI_fo (nb8.1.fo l6)]
    exact (e8 q l6).1
  have nd4' := nd4
  simp only [List.nodup_cons, List.mem_cons, List.not_mem_nil, or_false, not_or] at nd4'
  obtain ⟨⟨m1, m2, m3⟩, ⟨m4, m5⟩, m6, -⟩ := nd4'
  refine ⟨rfl, pa, ip, bt, sc, vb, sb, nb, rw', hy, pp, sn, so, ob, b, sp, ?_, fun L => ?_, ?_, ?_, ?_, ?_⟩
  · intro q hq
    obtain ⟨y1, y2, y3, y4, y5⟩ := E8 q hq
    have l6 : hK H6 q ≠ 0 := by rw [(E6 q hq).2.2.2.1]; exact hq
    exact ⟨(out q (fun z => hq (f0 q (inL q z))) l6).trans (E6 q hq).1, y2, y3, y4, y5⟩
  · have p8 := pOk6.kp kp8 npa
    have i8 := iOk6.kp kp8 nip
    have s8 := sOk6.kp kp8 nsc
    have y8 := hOk6.kp kp8 (nx3 hy hhy)
    have b8 := bOk6.kp kp8 (nx5 so hso)
    exact ⟨⟨kx11, (ro8 0 (by decide)).trans R0, (ro8 1 (by decide)).trans R1, (ro8 4 (by decide)).trans R4, (ro8 5 (by decide)).trans R5, (ro8 6 (by decide)).trans rk6⟩, p8, i8, s8, y8, ⟨(kp8 sn (by have := sn6.1; omega)).2.2.1.trans sn6.1, (kp8 sn (by have := sn6.1; omega)).2.2.2.trans sn6.2.1⟩, b8⟩
  · refine ⟨rk8, (ro8 3 (by decide)).trans R3, fun j => ?_, fun j => ?_⟩
    · show hR (sR h8 x 2 (some b)) pp j = none
      rw [(kp8 pp (by have := hOk6.2.2.1; omega)).2.1 (nx3 pp (f4.2 pp (by simp)))]
      exact pp6 j
    · show hR (sR h8 x 2 (some b)) sn j = none
      rw [(kp8 sn (by have := sn6.1; omega)).2.1 nsx]
      exact sn6.2.2 j
  · refine ⟨?_, ?_, ?_, ?_, ?_⟩
    · show wLf (wB h8 b Y_0.2.2.2) L4 ip 1 = 0
      rw [← hL4]
      simp only [wLf, if_true]
      rfl
    · show wLf (wB h8 b Y_0.2.2.2) L4 pa 4 = 0
      rw [← hL4]
      simp only [wLf, if_neg (Ne.symm m2), if_neg (Ne.symm m4), if_true]
      exact Y_0_t.2.1
    · show wLf (wB h8 b Y_0.2.2.2) L4 pa 5 = -1
      rw [← hL4]
      simp only [wLf, if_neg (Ne.symm m2), if_neg (Ne.symm m4), if_true]
      exact Y_0_t.2.2
    · rw [out hy (fun z => ?_) (by have := hOk6.1; omega)]
      · exact zhy6
      · have h9 := inL hy z
        have := hOk6.1
        have h3 := hhy
        rw [k4] at z
        simp only [List.mem_cons, List.not_mem_nil, or_false] at z
        rcases z with rfl | rfl | rfl | rfl
        · have := iOk6.1; omega
        · have := iOk6.2.2.1; omega
        · have := pOk6.1; omega
        · have := pOk6.2.2.2.2.1; omega
    · rw [out so (fun z => ?_) (by have := bOk6.1; omega)]
      · exact zso
      · have := bOk6.1
        rw [k4] at z
        simp only [List.mem_cons, List.not_mem_nil, or_false] at z
        rcases z with rfl | rfl | rfl | rfl
        · have := iOk6.1; omega
        · have := iOk6.2.2.1; omega
        · have := pOk6.1; omega
        · have := pOk6.2.2.2.2.1; omega
  · have fo : ∀ q, q ∈ L4.map Prod.fst → Fo h8 b q := fun q hq => by
      rw [k4] at hq
      refine nb8.1.fo ?_
      simp only [List.mem_cons, List.not_mem_nil, or_false] at hq
      rcases hq with rfl | rfl | rfl | rfl
      · have := iOk6.1; omega
      · have := iOk6.2.2.1; omega
      · have := pOk6.1; omega
      · have := pOk6.2.2.2.2.1; omega
    rw [← wB_wL fo]
    obtain ⟨q0, q1, q2, q3, q4⟩ := BuOk.kq (h2 := sR (wB (wL h8 L4) b Y_0.2.2.2) x 2 (some b)) (h := wB (wL h8 L4) b Y_0.2.2.2) (b := b) hB8 (Kp.sR x _ 2 (some b)) (by rw [show hK (wB (wL h8 L4) b Y_0.2.2.2) x = 1 from kx11]; decide) (by rw [show hK (wB (wL h8 L4) b Y_0.2.2.2) x = 1 from kx11]; decide)
    rw [q4]
    exact vB_wB (h := wL h8 L4) hB8
  · intro γ F c
    obtain ⟨γ1, c⟩ := c6 γ F c
    exact ⟨_, Cw.snd (i := (sR h8 x 2 (some b)).1) ((c.bu nb8.1 ⟨x, by rw [kx10]; decide, by rw [kx10]; decide, by rw [kx10]; decide⟩).kq (Kp.sR x h8 2 (some b)) (by rw [kx11]; decide) (by rw [kx11]; decide) (fun _ _ => rfl))⟩
