/-! THE LAW: input -/
theorem sA_self9 (h : Hp) (a : Nat) : sA h a (hI h a) = h := by
  refine Prod.ext (funext fun q => ?_) rfl
  show (if q = a then hI h a else hI h q) = hI h q
  split
  · next e => rw [e]
  · rfl
set_option maxRecDepth 20000 in
theorem lp_in1 {E : En} {h9 : Hp} {A : Nat → Nat} {a w k kq nq : Nat} {l : List Int32} {PP : Option Value → Hp → Prop} (as : Asc l.length (fun j => l.getD j 0)) (hl : l.length ≤ 300) (hk3 : k ≤ 300) (ht : ∀ f, TxA (sA h9 w f) A a l) (k_w : hK h9 w = 20) (l_w : hL h9 w = 5)
    (kk : ∀ f, (∀ q, q < 5 → f q = nI (wd l k 20 q)) → G E m_LW_input 75 [(3, .ref w), (2, .int (nI k)), (0, .ref (A 22)), (1, .ref a)] [] (sA h9 w f) kq nq PP noX) : ∀ (d i : Nat) (f : Nat → Int32), i ≤ 20 → 20 - i < d → (∀ q, q < 5 → f q = nI (wd l k i q)) → G E m_LW_input 23 [(4, .int (nI i)), (3, .ref w), (2, .int (nI k)), (0, .ref (A 22)), (1, .ref a)] [] (sA h9 w f) kq nq PP noX := by
  intro d
  induction d with
  | zero => intros; omega
  | succ d ih =>
    intro i f hi hd hf
    refine g_iload (pc := 23) d_LW_input_23 0 rfl ?_
    refine g_bipush (pc := 25) (v := 20) d_LW_input_25 (by decide) ?_
    refine g_icmp_ge (pc := 27) (tgt := 75) d_LW_input_27 (by decide) (fun c_27 => ?_) (fun c_27 => ?_)
    · skip
      have eq9 : i = 20 := by have := (nI_leI9 (a := 20) (b := i) (by decide) (by omega)).mp c_27; omega
      have hz : i = 20 ∨ l.length ≤ k + i := Or.inl eq9
      refine g_perm [1, 2, 3, 4] rfl ?_
      exact kk f (fun q hq => by rw [hf q hq, wd_e as hz hq, wd_e as (Or.inl rfl) hq])
    · skip
      have hi9 : i < 20 := Nat.lt_of_not_le (fun z => c_27 ((nI_leI9 (a := 20) (b := i) (by decide) (by omega)).mpr z))
      refine g_iload_n (pc := 30) d_LW_input_30 rfl 2 rfl ?_
      refine g_iload (pc := 31) d_LW_input_31 0 rfl ?_
      refine g_iadd (pc := 33) d_LW_input_33 ?_
      rw [nI_add]
      refine g_aload_n (pc := 34) d_LW_input_34 rfl 4 rfl ?_
      obtain ⟨u9, o9⟩ := TxA.sv (E := E) (ht f)
      refine g_callSv o9 (pc := 35) (As := []) d_LW_input_35 rfl mv_ST_length rfl st_LW_input_13 rfl rfl (Nat.le_of_ble_eq_true rfl) (cq_ST_length o9) ?_
      refine g_icmp_ge (pc := 38) (tgt := 75) d_LW_input_38 (by decide) (fun c_38 => ?_) (fun c_38 => ?_)
      · skip
        have hz : i = 20 ∨ l.length ≤ k + i := Or.inr ((nI_leI9 (by omega) (by omega)).mp c_38)
        refine g_perm [1, 2, 3, 4] rfl ?_
        exact kk f (fun q hq => by rw [hf q hq, wd_e as hz hq, wd_e as (Or.inl rfl) hq])
      · skip
        have hk9 : k + i < l.length := Nat.lt_of_not_le (fun z => c_38 ((nI_leI9 (by omega) (by omega)).mpr z))
        refine g_aload_n (pc := 41) d_LW_input_41 rfl 1 rfl ?_
        refine g_iload (pc := 42) d_LW_input_42 0 rfl ?_
        refine g_iconst (pc := 44) (v := 4) d_LW_input_44 (by decide) ?_
        refine g_idiv (pc := 45) d_LW_input_45 (by decide) ?_
        refine g_top (y := nI (i / 4)) (nI_div (b := 4) (by omega) (by decide) (by decide)) ?_
        refine g_dup2 (pc := 46) d_LW_input_46 rfl rfl ?_
        refine g_ialoadX (pc := 47) (nI (wd l k i (i / 4))) (j := i / 4) d_LW_input_47 k_w (by show i / 4 < hL h9 w; rw [l_w]; omega) (by show hL h9 w < _; rw [l_w]; decide) (by rw [hI_sA_same]; exact hf (i / 4) (by omega)) ?_
        refine g_aload_n (pc := 48) d_LW_input_48 rfl 4 rfl ?_
        refine g_iload_n (pc := 49) d_LW_input_49 rfl 2 rfl ?_
        refine g_iload (pc := 50) d_LW_input_50 0 rfl ?_
        refine g_iadd (pc := 52) d_LW_input_52 ?_
        rw [nI_add]
        obtain ⟨u9, o9⟩ := TxA.sv (E := E) (ht f)
        refine g_callSv o9 (pc := 53) (As := [.int _]) d_LW_input_53 rfl mv_ST_charAt rfl st_LW_input_19 rfl rfl (Nat.le_of_ble_eq_true rfl) (cq_ST_charAt o9 (by omega) as hk9) ?_
        refine g_bipush (pc := 56) (v := 24) d_LW_input_56 (by decide) ?_
        refine g_bipush (pc := 58) (v := 8) d_LW_input_58 (by decide) ?_
        refine g_iload (pc := 60) d_LW_input_60 0 rfl ?_
        refine g_iconst (pc := 62) (v := 4) d_LW_input_62 (by decide) ?_
        refine g_irem (pc := 63) d_LW_input_63 (by decide) ?_
        refine g_top (y := nI (i % 4)) (nI_rem (b := 4) (by omega) (by decide) (by decide)) ?_
        refine g_imul (pc := 64) d_LW_input_64 ?_
        refine g_isub (pc := 65) d_LW_input_65 ?_
        refine g_top (y := nI (24 - 8 * (i % 4))) (by rw [show (8 : Int32) = nI 8 from rfl, nI_mul, show (24 : Int32) = nI 24 from rfl, nI_sub (by omega)]) ?_
        refine g_ishl (pc := 66) d_LW_input_66 ?_
        refine g_ior (pc := 67) d_LW_input_67 ?_
        refine g_top (y := nI (wd l k (i + 1) (i / 4))) (wd_s as) ?_
        refine g_iastoreX (pc := 68) (j := i / 4) d_LW_input_68 k_w (by show i / 4 < hL h9 w; rw [l_w]; omega) (by show hL h9 w < _; rw [l_w]; decide) ?_
        refine g_h (h' := sA h9 w (u1 f (i / 4) (nI (wd l k (i + 1) (i / 4))))) (by rw [sI_sA, hI_sA_same, sA_sA]) ?_
        obtain ⟨x_1, hx_1⟩ : ∃ y : Int32, y = (nI i) + 1 := ⟨_, rfl⟩
        refine g_iinc (pc := 69) (w := 0) (v := x_1) (lv' := [(4, .int x_1), (3, .ref w), (2, .int (nI k)), (0, .ref (A 22)), (1, .ref a)]) d_LW_input_69 rfl (by rw [hx_1]; rfl) (by decide) rfl ?_
        refine g_goto (pc := 72) (tgt := 23) d_LW_input_72 (by decide) ?_
        obtain rfl : x_1 = nI (i + 1) := by rw [hx_1]; exact nI_1 _
        refine g_perm [0, 1, 2, 3, 4] rfl ?_
        exact ih (i + 1) _ (by omega) (by omega) (fun q hq => by
          by_cases e : q = i / 4
          · rw [e, u1_same]
          · rw [u1_ne e, wd_o e]; exact hf q hq)
set_option maxRecDepth 20000 in
theorem lp_in2 {E : En} {h0 : Hp} {A : Nat → Nat} {a n : Nat} {l : List Int32} (as : Asc l.length (fun j => l.getD j 0)) (hl : l.length ≤ 300) : ∀ (d t : Nat) (h : Hp), t ≤ 15 → 15 - t < d → IV h0 h A n → TxA h A a l → hI h (A 15) 1 = nI (20 * t) → (∀ j, j < 20 * t → hI h (A 16) j = nI (cz l j)) → G E m_LW_input 8 [(2, .int (nI (20 * t))), (0, .ref (A 22)), (1, .ref a)] [] h (15 - t) (5 * (15 - t)) (fun v h9 => v = none ∧ IV h0 h9 A n ∧ hI h9 (A 15) 1 = nI l.length ∧ ∀ j, j < l.length → hI h9 (A 16) j = nI (cz l j)) noX := by
  intro d
  induction d with
  | zero => intros; omega
  | succ d ih =>
    intro t h ht9 hd iv tx h15 h16
    obtain ⟨⟨γ, c⟩, -, -⟩ := id iv
    refine g_iload_n (pc := 8) d_LW_input_8 rfl 0 rfl ?_
    refine g_aload_n (pc := 9) d_LW_input_9 rfl 2 rfl ?_
    obtain ⟨u9, o9⟩ := TxA.sv (E := E) (tx)
    refine g_callSv o9 (pc := 10) (As := []) d_LW_input_10 rfl mv_ST_length rfl st_LW_input_13 rfl rfl (Nat.le_of_ble_eq_true rfl) (cq_ST_length o9) ?_
    refine g_icmp_ge (pc := 13) (tgt := 101) d_LW_input_13 (by decide) (fun c_13 => ?_) (fun c_13 => ?_)
    · skip
      have hz : l.length ≤ 20 * t := (nI_leI9 (by omega) (by omega)).mp c_13
      refine g_aload_n (pc := 101) d_LW_input_101 rfl 1 rfl ?_
      refine g_aload_n (pc := 102) d_LW_input_102 rfl 2 rfl ?_
      obtain ⟨u9, o9⟩ := TxA.sv (E := E) (tx)
      refine g_callSv o9 (pc := 103) (As := []) d_LW_input_103 rfl mv_ST_length rfl st_LW_input_13 rfl rfl (Nat.le_of_ble_eq_true rfl) (cq_ST_length o9) ?_
      refine g_callV (kz := 0) (nz := 0) (ci := 0) (As := [.int _]) (pc := 106) d_LW_input_106 rfl mv_HS_truncate st_LW_input_7 rfl rfl (by decide) c.2.1.1.1 rfl rfl (Nat.le_of_ble_eq_true rfl) (wi_truncate c h15 hz (by omega)) (fun _ _ z => z.elim) (fun v h1 hv => ?_)
      obtain ⟨rfl, on, n15, n16⟩ := hv
      refine g_pop (pc := 109) d_LW_input_109 rfl ?_
      refine g_vret (pc := 110) d_LW_input_110 rfl ?_
      refine ⟨rfl, iv.only on, n15, fun j hj => ?_⟩
      rw [n16]
      exact h16 j (by omega)
    · skip
      refine g_iconst (pc := 16) (v := 5) d_LW_input_16 (by decide) ?_
      have hN : 20 * t < l.length := Nat.lt_of_not_le (fun z => c_13 ((nI_leI9 (by omega) (by omega)).mpr z))
      refine G.mono (k := (15 - (t + 1)) + 1) (n := 5 * (15 - (t + 1)) + 5) (by omega) (by omega) ?_
      refine g_newarray (pc := 17) (kd := 20) (N := 5) d_LW_input_17 ⟨by decide, by decide⟩ rfl ac_i (by decide) (by decide) (by decide) (fun w hw => ?_)
      have ex : ∀ f, Ext h (sA (hNew h w 20 5) w f) := fun f => (Ext.r.new hw).sA hw
      refine g_h (sA_self9 (hNew h w 20 5) w).symm ?_
      refine g_astore_n (pc := 19) (lv' := [(3, .ref w), (2, .int (nI (20 * t))), (0, .ref (A 22)), (1, .ref a)]) d_LW_input_19 rfl (by decide) rfl ?_
      refine g_iconst (pc := 20) (v := 0) d_LW_input_20 (by decide) ?_
      refine g_istore (pc := 21) (lv' := [(4, .int (nI 0)), (3, .ref w), (2, .int (nI (20 * t))), (0, .ref (A 22)), (1, .ref a)]) d_LW_input_21 (by decide) rfl ?_
      refine g_perm [0, 1, 2, 3, 4] rfl ?_
      have h00 : ∀ q, q < 5 → hI (hNew h w 20 5) w q = nI (wd l (20 * t) 0 q) := fun q hq => by
        rw [show hI (hNew h w 20 5) w = fun _ => 0 from by show u1 h.1 w (fun _ => 0) w = _; rw [u1_same]]
        unfold wd
        rw [bb_ge (by omega), bb_ge (by omega), bb_ge (by omega), bb_ge (by omega)]
        rfl
      refine lp_in1 as hl (by omega) (fun f => tx.ext (ex f)) (by show u1 (hK h) w 20 w = 20; rw [u1_same]) (by show u1 (hL h) w 5 w = 5; rw [u1_same]) (fun f hf => ?_) 21 0 (hI (hNew h w 20 5) w) (by decide) (by decide) h00
      have iv2 := iv.ext (ex f)
      obtain ⟨⟨γ2, c2⟩, -, -⟩ := id iv2
      have k_w : hK (sA (hNew h w 20 5) w f) w = 20 := by show u1 (hK h) w 20 w = 20; rw [u1_same]
      have l_w : hL (sA (hNew h w 20 5) w f) w = 5 := by show u1 (hL h) w 5 w = 5; rw [u1_same]
      have e15 := (ex f (A 15) (c.2.2.1.2 15 (c.ix (by decide) (by decide))).1).1
      have e16 := (ex f (A 16) (c.2.2.1.2 16 (c.ix (by decide) (by decide))).1).1
      have w_w : hI (sA (hNew h w 20 5) w f) w = f := hI_sA_same _ _ _
      have tx2 := tx.ext (ex f)
      revert iv2 c2 k_w l_w e15 e16 w_w tx2
      generalize sA (hNew h w 20 5) w f = h2
      intro iv2 c2 k_w l_w e15 e16 w_w tx2
      refine g_aload_n (pc := 75) d_LW_input_75 rfl 2 rfl ?_
      refine g_aload_n (pc := 76) d_LW_input_76 rfl 0 rfl ?_
      refine g_iconst (pc := 77) (v := 0) d_LW_input_77 (by decide) ?_
      refine g_ialoadX (pc := 78) (nI (wd l (20 * t) 20 0)) (j := 0) d_LW_input_78 k_w (by rw [l_w]; decide) (by rw [l_w]; decide) (by rw [w_w]; exact hf 0 (by decide)) ?_
      refine g_aload_n (pc := 79) d_LW_input_79 rfl 0 rfl ?_
      refine g_iconst (pc := 80) (v := 1) d_LW_input_80 (by decide) ?_
      refine g_ialoadX (pc := 81) (nI (wd l (20 * t) 20 1)) (j := 1) d_LW_input_81 k_w (by rw [l_w]; decide) (by rw [l_w]; decide) (by rw [w_w]; exact hf 1 (by decide)) ?_
      refine g_aload_n (pc := 82) d_LW_input_82 rfl 0 rfl ?_
      refine g_iconst (pc := 83) (v := 2) d_LW_input_83 (by decide) ?_
      refine g_ialoadX (pc := 84) (nI (wd l (20 * t) 20 2)) (j := 2) d_LW_input_84 k_w (by rw [l_w]; decide) (by rw [l_w]; decide) (by rw [w_w]; exact hf 2 (by decide)) ?_
      refine g_aload_n (pc := 85) d_LW_input_85 rfl 0 rfl ?_
      refine g_iconst (pc := 86) (v := 3) d_LW_input_86 (by decide) ?_
      refine g_ialoadX (pc := 87) (nI (wd l (20 * t) 20 3)) (j := 3) d_LW_input_87 k_w (by rw [l_w]; decide) (by rw [l_w]; decide) (by rw [w_w]; exact hf 3 (by decide)) ?_
      refine g_aload_n (pc := 88) d_LW_input_88 rfl 0 rfl ?_
      refine g_iconst (pc := 89) (v := 4) d_LW_input_89 (by decide) ?_
      refine g_ialoadX (pc := 90) (nI (wd l (20 * t) 20 4)) (j := 4) d_LW_input_90 k_w (by rw [l_w]; decide) (by rw [l_w]; decide) (by rw [w_w]; exact hf 4 (by decide)) ?_
      refine g_callV (kz := 0) (nz := 0) (ci := 0) (As := [.int _, .int _, .int _, .int _, .int _]) (pc := 91) d_LW_input_91 rfl mv_HS_append st_LW_input_23 rfl rfl (by decide) c2.2.1.1.1 rfl rfl (Nat.le_of_ble_eq_true rfl) (wi_append (k := 20 * t) c2 (by rw [e15]; exact h15) (by omega)) (fun _ _ z => z.elim) (fun v h3 hv => ?_)
      obtain ⟨rfl, on, n15, n16⟩ := hv
      refine g_pop (pc := 94) d_LW_input_94 rfl ?_
      obtain ⟨x_1, hx_1⟩ : ∃ y : Int32, y = (nI (20 * t)) + 20 := ⟨_, rfl⟩
      refine g_iinc (pc := 95) (w := 1) (v := x_1) (lv' := [(2, .int x_1), (3, .ref w), (0, .ref (A 22)), (1, .ref a)]) d_LW_input_95 rfl (by rw [hx_1]; rfl) (by decide) rfl ?_
      refine g_goto (pc := 98) (tgt := 8) d_LW_input_98 (by decide) ?_
      obtain rfl : x_1 = nI (20 * (t + 1)) := by rw [hx_1]; exact nI_add (20 * t) 20
      refine g_perm [0, 2, 3] rfl ?_
      exact ih (t + 1) h3 (by omega) (by omega) (iv2.only on) (tx2.only c2 on) n15 (fun j hj => by rw [n16]; exact four5 as (fun j hj => by rw [e16]; exact h16 j hj) j hj)
set_option maxRecDepth 20000 in
theorem cl_LW_input {E : En} {h0 : Hp} {A γ : Nat → Nat} {a n : Nat} {l : List Int32} (c : CS h0 A γ n) (tx : TxA h0 A a l) (as : Asc l.length (fun j => l.getD j 0)) (hl : l.length ≤ 300) (h15 : hI h0 (A 15) 1 = nI 0) : CT E m_LW_input [.ref (A 22), .ref a] h0 15 75 (fun v h9 => v = none ∧ IV h0 h9 A n ∧ hI h9 (A 15) 1 = nI l.length ∧ ∀ j, j < l.length → hI h9 (A 16) j = nI (cz l j)) noX := by
  refine ct_of rfl (by decide +kernel) (Nat.le_of_ble_eq_true rfl) ?_
  show G E m_LW_input 0 [(0, .ref (A 22)), (1, .ref a)] [] h0 15 75 _ noX
  refine g_aload_n (pc := 0) d_LW_input_0 rfl 0 rfl ?_
  refine g_iconst (pc := 1) (v := 0) d_LW_input_1 (by decide) ?_
  refine g_top (y := nI 0) rfl ?_
  refine g_callV (kz := 0) (nz := 0) (ci := 0) (As := [.int _]) (pc := 2) d_LW_input_2 rfl mv_HS_truncate st_LW_input_7 rfl rfl (by decide) c.2.1.1.1 rfl rfl (Nat.le_of_ble_eq_true rfl) (wi_truncate c h15 (Nat.le_refl _) (by decide)) (fun _ _ z => z.elim) (fun v h1 hv => ?_)
  obtain ⟨rfl, on, n15, n16⟩ := hv
  refine g_pop (pc := 5) d_LW_input_5 rfl ?_
  refine g_iconst (pc := 6) (v := 0) d_LW_input_6 (by decide) ?_
  refine g_istore_n (pc := 7) (lv' := [(2, .int (nI (20 * 0))), (0, .ref (A 22)), (1, .ref a)]) d_LW_input_7 rfl (by decide) rfl ?_
  refine g_perm [0, 1, 2] rfl ?_
  exact lp_in2 as hl 16 0 h1 (by decide) (by decide) ((IV.r c).only on) (tx.only c on) n15 (fun j hj => by omega)
