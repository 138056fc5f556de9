def M_beginB (c r : Nat → Int32) : Nat → Int32 := fun k => if k < 7 then r k else if k < 12 then 0 else c k
def P_copy (nw sc : Nat) (B C : Bu) : Bu := (M_copy 12 B.1 C.1, fun j => if j < nw then C.2.1 j else B.2.1 j, fun i => if i < sc then M_copy 16 (B.2.2 i) (C.2.2 i) else B.2.2 i)
/-- two bureaus that share nothing -/
def Dis (h : Hp) (b c : Nat) : Prop := b ≠ c ∧ rA h b 12 ≠ rA h c 12 ∧ ∀ i j, i < 8 → j < 8 → sh h b i ≠ sh h c j
theorem Dis.fo {h : Hp} {b c : Nat} (hB : BuOk h b) (hC : BuOk h c) (d : Dis h b c) : Fo h b c ∧ Fo h b (rA h c 12) ∧ ∀ j, j < 8 → Fo h b (sh h c j) := by
  obtain ⟨d1, d2, d3⟩ := d
  have b1 := hB.1
  have b4 := hB.2.2.2.1
  have c1 := hC.1
  have c4 := hC.2.2.2.1
  refine ⟨⟨fun e => d1 e.symm, fun e => by rw [← e] at b4; omega, fun i hi e => by have := hB.sk hi; rw [← e] at this; omega⟩, ⟨fun e => by rw [← e] at b1; omega, fun e => d2 e.symm, fun i hi e => by have := hB.sk hi; rw [← e] at this; omega⟩, fun j hj => ⟨fun e => by have := hC.sk hj; rw [e] at this; omega, fun e => by have := hC.sk hj; rw [e] at this; omega, fun i hi e => d3 i j hi hj e.symm⟩⟩
theorem vB_1 (h : Hp) (b : Nat) : (vB h b).1 = hI h b := rfl
theorem vB_s {h : Hp} {b i : Nat} (hi : i < 8) : (vB h b).2.2 i = hI h (sh h b i) := if_pos hi
/-- an array that is none of the bureau's -/
theorem Fo.arr {h : Hp} {b q : Nat} (hB : BuOk h b) (k : hK h q = 20) (e : q ≠ rA h b 12) : Fo h b q :=
  ⟨fun z => by have := hB.1; rw [← z] at this; omega, e, fun i hi z => by have := hB.sk hi; rw [← z] at this; omega⟩
set_option maxRecDepth 20000 in
theorem ct_SH_begin {E : En} {h : Hp} {a r : Nat} (hk : hK h a = 6) (hr : hK h r = 20) (hl : hL h r = 8) : CR E m_SH_begin [.ref a, .ref r] h (none) (sA h a (M_begin (hI h a) (hI h r))) := by
  refine ct_of rfl (by decide +kernel) (Nat.le_of_ble_eq_true rfl) ?_
  show G E m_SH_begin 0 [(0, .ref a), (1, .ref r)] [] h 0 0 _ noX
  have har : r ≠ a := fun e => by rw [e] at hr; omega
  refine g_aload_n (pc := 0) d_SH_begin_0 rfl 0 rfl ?_
  refine g_aload_n (pc := 1) d_SH_begin_1 rfl 1 rfl ?_
  refine g_iconst (pc := 2) (v := 0) d_SH_begin_2 (by decide) ?_
  refine g_ialoadX (pc := 3) (j := 0) (hI h r 0) d_SH_begin_3 hr (show 0 < hL h r by rw [hl]; decide) (show hL h r < 2 ^ 31 by rw [hl]; decide) (by simp only [sI_sA, sA_sA, hI_sA_same, hI_sA_ne har]) ?_
  refine g_putI (pc := 4) (ci := 5) (f := 15) rfl d_SH_begin_4 fl_SH_9 (fun q hq => by cases hq; exact rfl) rfl rfl (by decide) (by assumption) ?_
  refine g_aload_n (pc := 7) d_SH_begin_7 rfl 0 rfl ?_
  refine g_aload_n (pc := 8) d_SH_begin_8 rfl 1 rfl ?_
  refine g_iconst (pc := 9) (v := 0) d_SH_begin_9 (by decide) ?_
  refine g_ialoadX (pc := 10) (j := 0) (hI h r 0) d_SH_begin_10 hr (show 0 < hL h r by rw [hl]; decide) (show hL h r < 2 ^ 31 by rw [hl]; decide) (by simp only [sI_sA, sA_sA, hI_sA_same, hI_sA_ne har]) ?_
  refine g_putI (pc := 11) (ci := 5) (f := 0) rfl d_SH_begin_11 fl_SH_15 (fun q hq => by cases hq; exact rfl) rfl rfl (by decide) (by assumption) ?_
  refine g_aload_n (pc := 14) d_SH_begin_14 rfl 0 rfl ?_
  refine g_aload_n (pc := 15) d_SH_begin_15 rfl 1 rfl ?_
  refine g_iconst (pc := 16) (v := 1) d_SH_begin_16 (by decide) ?_
  refine g_ialoadX (pc := 17) (j := 1) (hI h r 1) d_SH_begin_17 hr (show 1 < hL h r by rw [hl]; decide) (show hL h r < 2 ^ 31 by rw [hl]; decide) (by simp only [sI_sA, sA_sA, hI_sA_same, hI_sA_ne har]) ?_
  refine g_sipush (pc := 18) (v := 500) d_SH_begin_18 (by decide) ?_
  refine g_isub (pc := 21) d_SH_begin_21 ?_
  refine g_putI (pc := 22) (ci := 5) (f := 1) rfl d_SH_begin_22 fl_SH_18 (fun q hq => by cases hq; exact rfl) rfl rfl (by decide) (by assumption) ?_
  refine g_aload_n (pc := 25) d_SH_begin_25 rfl 0 rfl ?_
  refine g_aload_n (pc := 26) d_SH_begin_26 rfl 1 rfl ?_
  refine g_iconst (pc := 27) (v := 2) d_SH_begin_27 (by decide) ?_
  refine g_ialoadX (pc := 28) (j := 2) (hI h r 2) d_SH_begin_28 hr (show 2 < hL h r by rw [hl]; decide) (show hL h r < 2 ^ 31 by rw [hl]; decide) (by simp only [sI_sA, sA_sA, hI_sA_same, hI_sA_ne har]) ?_
  refine g_bipush (pc := 29) (v := 50) d_SH_begin_29 (by decide) ?_
  refine g_isub (pc := 31) d_SH_begin_31 ?_
  refine g_putI (pc := 32) (ci := 5) (f := 2) rfl d_SH_begin_32 fl_SH_21 (fun q hq => by cases hq; exact rfl) rfl rfl (by decide) (by assumption) ?_
  refine g_aload_n (pc := 35) d_SH_begin_35 rfl 0 rfl ?_
  refine g_aload_n (pc := 36) d_SH_begin_36 rfl 1 rfl ?_
  refine g_iconst (pc := 37) (v := 3) d_SH_begin_37 (by decide) ?_
  refine g_ialoadX (pc := 38) (j := 3) (hI h r 3) d_SH_begin_38 hr (show 3 < hL h r by rw [hl]; decide) (show hL h r < 2 ^ 31 by rw [hl]; decide) (by simp only [sI_sA, sA_sA, hI_sA_same, hI_sA_ne har]) ?_
  refine g_iconst (pc := 39) (v := 5) d_SH_begin_39 (by decide) ?_
  refine g_isub (pc := 40) d_SH_begin_40 ?_
  refine g_putI (pc := 41) (ci := 5) (f := 3) rfl d_SH_begin_41 fl_SH_24 (fun q hq => by cases hq; exact rfl) rfl rfl (by decide) (by assumption) ?_
  refine g_aload_n (pc := 44) d_SH_begin_44 rfl 0 rfl ?_
  refine g_aload_n (pc := 45) d_SH_begin_45 rfl 1 rfl ?_
  refine g_iconst (pc := 46) (v := 4) d_SH_begin_46 (by decide) ?_
  refine g_ialoadX (pc := 47) (j := 4) (hI h r 4) d_SH_begin_47 hr (show 4 < hL h r by rw [hl]; decide) (show hL h r < 2 ^ 31 by rw [hl]; decide) (by simp only [sI_sA, sA_sA, hI_sA_same, hI_sA_ne har]) ?_
  refine g_putI (pc := 48) (ci := 5) (f := 4) rfl d_SH_begin_48 fl_SH_27 (fun q hq => by cases hq; exact rfl) rfl rfl (by decide) (by assumption) ?_
  refine g_aload_n (pc := 51) d_SH_begin_51 rfl 0 rfl ?_
  refine g_aload_n (pc := 52) d_SH_begin_52 rfl 1 rfl ?_
  refine g_iconst (pc := 53) (v := 5) d_SH_begin_53 (by decide) ?_
  refine g_ialoadX (pc := 54) (j := 5) (hI h r 5) d_SH_begin_54 hr (show 5 < hL h r by rw [hl]; decide) (show hL h r < 2 ^ 31 by rw [hl]; decide) (by simp only [sI_sA, sA_sA, hI_sA_same, hI_sA_ne har]) ?_
  refine g_putI (pc := 55) (ci := 5) (f := 5) rfl d_SH_begin_55 fl_SH_30 (fun q hq => by cases hq; exact rfl) rfl rfl (by decide) (by assumption) ?_
  refine g_aload_n (pc := 58) d_SH_begin_58 rfl 0 rfl ?_
  refine g_aload_n (pc := 59) d_SH_begin_59 rfl 1 rfl ?_
  refine g_bipush (pc := 60) (v := 6) d_SH_begin_60 (by decide) ?_
  refine g_ialoadX (pc := 62) (j := 6) (hI h r 6) d_SH_begin_62 hr (show 6 < hL h r by rw [hl]; decide) (show hL h r < 2 ^ 31 by rw [hl]; decide) (by simp only [sI_sA, sA_sA, hI_sA_same, hI_sA_ne har]) ?_
  refine g_putI (pc := 63) (ci := 5) (f := 6) rfl d_SH_begin_63 fl_SH_33 (fun q hq => by cases hq; exact rfl) rfl rfl (by decide) (by assumption) ?_
  refine g_aload_n (pc := 66) d_SH_begin_66 rfl 0 rfl ?_
  refine g_aload_n (pc := 67) d_SH_begin_67 rfl 1 rfl ?_
  refine g_bipush (pc := 68) (v := 7) d_SH_begin_68 (by decide) ?_
  refine g_ialoadX (pc := 70) (j := 7) (hI h r 7) d_SH_begin_70 hr (show 7 < hL h r by rw [hl]; decide) (show hL h r < 2 ^ 31 by rw [hl]; decide) (by simp only [sI_sA, sA_sA, hI_sA_same, hI_sA_ne har]) ?_
  refine g_putI (pc := 71) (ci := 5) (f := 7) rfl d_SH_begin_71 fl_SH_36 (fun q hq => by cases hq; exact rfl) rfl rfl (by decide) (by assumption) ?_
  refine g_aload_n (pc := 74) d_SH_begin_74 rfl 0 rfl ?_
  refine g_iconst (pc := 75) (v := 0) d_SH_begin_75 (by decide) ?_
  refine g_putI (pc := 76) (ci := 5) (f := 8) rfl d_SH_begin_76 fl_SH_39 (fun q hq => by cases hq; exact rfl) rfl rfl (by decide) (by assumption) ?_
  refine g_aload_n (pc := 79) d_SH_begin_79 rfl 0 rfl ?_
  refine g_iconst (pc := 80) (v := 0) d_SH_begin_80 (by decide) ?_
  refine g_putI (pc := 81) (ci := 5) (f := 9) rfl d_SH_begin_81 fl_SH_42 (fun q hq => by cases hq; exact rfl) rfl rfl (by decide) (by assumption) ?_
  refine g_aload_n (pc := 84) d_SH_begin_84 rfl 0 rfl ?_
  refine g_iconst (pc := 85) (v := (-1)) d_SH_begin_85 (by decide) ?_
  refine g_putI (pc := 86) (ci := 5) (f := 10) rfl d_SH_begin_86 fl_SH_45 (fun q hq => by cases hq; exact rfl) rfl rfl (by decide) (by assumption) ?_
  refine g_aload_n (pc := 89) d_SH_begin_89 rfl 0 rfl ?_
  refine g_iconst (pc := 90) (v := 0) d_SH_begin_90 (by decide) ?_
  refine g_putI (pc := 91) (ci := 5) (f := 11) rfl d_SH_begin_91 fl_SH_48 (fun q hq => by cases hq; exact rfl) rfl rfl (by decide) (by assumption) ?_
  refine g_aload_n (pc := 94) d_SH_begin_94 rfl 0 rfl ?_
  refine g_iconst (pc := 95) (v := 0) d_SH_begin_95 (by decide) ?_
  refine g_putI (pc := 96) (ci := 5) (f := 13) rfl d_SH_begin_96 fl_SH_51 (fun q hq => by cases hq; exact rfl) rfl rfl (by decide) (by assumption) ?_
  refine g_aload_n (pc := 99) d_SH_begin_99 rfl 0 rfl ?_
  refine g_iconst (pc := 100) (v := 0) d_SH_begin_100 (by decide) ?_
  refine g_putI (pc := 101) (ci := 5) (f := 14) rfl d_SH_begin_101 fl_SH_54 (fun q hq => by cases hq; exact rfl) rfl rfl (by decide) (by assumption) ?_
  refine g_aload_n (pc := 104) d_SH_begin_104 rfl 0 rfl ?_
  refine g_iconst (pc := 105) (v := 1) d_SH_begin_105 (by decide) ?_
  refine g_putI (pc := 106) (ci := 5) (f := 12) rfl d_SH_begin_106 fl_SH_57 (fun q hq => by cases hq; exact rfl) (by rfl) (by rfl) (by decide) (by assumption) ?_
  refine g_vret (pc := 109) d_SH_begin_109 rfl ?_
  refine ⟨rfl, ?_⟩
  simp only [sI_sA, sA_sA, hI_sA_same, hI_sA_ne har]
  refine congrArg (sA h a) ?_
  funext q
  by_cases hq : q < 16
  · rcases (show q = 0 ∨ q = 1 ∨ q = 2 ∨ q = 3 ∨ q = 4 ∨ q = 5 ∨ q = 6 ∨ q = 7 ∨ q = 8 ∨ q = 9 ∨ q = 10 ∨ q = 11 ∨ q = 12 ∨ q = 13 ∨ q = 14 ∨ q = 15 by omega) with rfl | rfl | rfl | rfl | rfl | rfl | rfl | rfl | rfl | rfl | rfl | rfl | rfl | rfl | rfl | rfl <;> simp [u1_at, M_begin]
  · have z : ∀ j, j < 16 → q ≠ j := fun j hj e => hq (by omega)
    simp only [u1_at, M_begin]
    simp [z]
set_option maxRecDepth 20000 in
theorem ct_SH_copyFrom {E : En} {h : Hp} {a r : Nat} (hk : hK h a = 6) (hr : hK h r = 6) (har : r ≠ a) (ho : hI h r 12 = 0 ∨ hI h r 12 = 1) : CR E m_SH_copyFrom [.ref a, .ref r] h (none) (sA h a (M_copy 16 (hI h a) (hI h r))) := by
  refine ct_of rfl (by decide +kernel) (Nat.le_of_ble_eq_true rfl) ?_
  show G E m_SH_copyFrom 0 [(0, .ref a), (1, .ref r)] [] h 0 0 _ noX
  refine g_aload_n (pc := 0) d_SH_copyFrom_0 rfl 0 rfl ?_
  refine g_aload_n (pc := 1) d_SH_copyFrom_1 rfl 1 rfl ?_
  refine g_getIX (pc := 2) (ci := 5) (f := 15) (hI h r 15) rfl d_SH_copyFrom_2 fl_SH_9 (by decide) hr (by simp only [sI_sA, sA_sA, hI_sA_same, hI_sA_ne har]) ?_
  refine g_putI (pc := 5) (ci := 5) (f := 15) rfl d_SH_copyFrom_5 fl_SH_9 (fun q hq => by cases hq; exact rfl) rfl rfl (by decide) (by assumption) ?_
  refine g_aload_n (pc := 8) d_SH_copyFrom_8 rfl 0 rfl ?_
  refine g_aload_n (pc := 9) d_SH_copyFrom_9 rfl 1 rfl ?_
  refine g_getIX (pc := 10) (ci := 5) (f := 0) (hI h r 0) rfl d_SH_copyFrom_10 fl_SH_15 (by decide) hr (by simp only [sI_sA, sA_sA, hI_sA_same, hI_sA_ne har]) ?_
  refine g_putI (pc := 13) (ci := 5) (f := 0) rfl d_SH_copyFrom_13 fl_SH_15 (fun q hq => by cases hq; exact rfl) rfl rfl (by decide) (by assumption) ?_
  refine g_aload_n (pc := 16) d_SH_copyFrom_16 rfl 0 rfl ?_
  refine g_aload_n (pc := 17) d_SH_copyFrom_17 rfl 1 rfl ?_
  refine g_getIX (pc := 18) (ci := 5) (f := 1) (hI h r 1) rfl d_SH_copyFrom_18 fl_SH_18 (by decide) hr (by simp only [sI_sA, sA_sA, hI_sA_same, hI_sA_ne har]) ?_
  refine g_putI (pc := 21) (ci := 5) (f := 1) rfl d_SH_copyFrom_21 fl_SH_18 (fun q hq => by cases hq; exact rfl) rfl rfl (by decide) (by assumption) ?_
  refine g_aload_n (pc := 24) d_SH_copyFrom_24 rfl 0 rfl ?_
  refine g_aload_n (pc := 25) d_SH_copyFrom_25 rfl 1 rfl ?_
  refine g_getIX (pc := 26) (ci := 5) (f := 2) (hI h r 2) rfl d_SH_copyFrom_26 fl_SH_21 (by decide) hr (by simp only [sI_sA, sA_sA, hI_sA_same, hI_sA_ne har]) ?_
  refine g_putI (pc := 29) (ci := 5) (f := 2) rfl d_SH_copyFrom_29 fl_SH_21 (fun q hq => by cases hq; exact rfl) rfl rfl (by decide) (by assumption) ?_
  refine g_aload_n (pc := 32) d_SH_copyFrom_32 rfl 0 rfl ?_
  refine g_aload_n (pc := 33) d_SH_copyFrom_33 rfl 1 rfl ?_
  refine g_getIX (pc := 34) (ci := 5) (f := 3) (hI h r 3) rfl d_SH_copyFrom_34 fl_SH_24 (by decide) hr (by simp only [sI_sA, sA_sA, hI_sA_same, hI_sA_ne har]) ?_
  refine g_putI (pc := 37) (ci := 5) (f := 3) rfl d_SH_copyFrom_37 fl_SH_24 (fun q hq => by cases hq; exact rfl) rfl rfl (by decide) (by assumption) ?_
  refine g_aload_n (pc := 40) d_SH_copyFrom_40 rfl 0 rfl ?_
  refine g_aload_n (pc := 41) d_SH_copyFrom_41 rfl 1 rfl ?_
  refine g_getIX (pc := 42) (ci := 5) (f := 4) (hI h r 4) rfl d_SH_copyFrom_42 fl_SH_27 (by decide) hr (by simp only [sI_sA, sA_sA, hI_sA_same, hI_sA_ne har]) ?_
  refine g_putI (pc := 45) (ci := 5) (f := 4) rfl d_SH_copyFrom_45 fl_SH_27 (fun q hq => by cases hq; exact rfl) rfl rfl (by decide) (by assumption) ?_
  refine g_aload_n (pc := 48) d_SH_copyFrom_48 rfl 0 rfl ?_
  refine g_aload_n (pc := 49) d_SH_copyFrom_49 rfl 1 rfl ?_
  refine g_getIX (pc := 50) (ci := 5) (f := 5) (hI h r 5) rfl d_SH_copyFrom_50 fl_SH_30 (by decide) hr (by simp only [sI_sA, sA_sA, hI_sA_same, hI_sA_ne har]) ?_
  refine g_putI (pc := 53) (ci := 5) (f := 5) rfl d_SH_copyFrom_53 fl_SH_30 (fun q hq => by cases hq; exact rfl) rfl rfl (by decide) (by assumption) ?_
  refine g_aload_n (pc := 56) d_SH_copyFrom_56 rfl 0 rfl ?_
  refine g_aload_n (pc := 57) d_SH_copyFrom_57 rfl 1 rfl ?_
  refine g_getIX (pc := 58) (ci := 5) (f := 6) (hI h r 6) rfl d_SH_copyFrom_58 fl_SH_33 (by decide) hr (by simp only [sI_sA, sA_sA, hI_sA_same, hI_sA_ne har]) ?_
  refine g_putI (pc := 61) (ci := 5) (f := 6) rfl d_SH_copyFrom_61 fl_SH_33 (fun q hq => by cases hq; exact rfl) rfl rfl (by decide) (by assumption) ?_
  refine g_aload_n (pc := 64) d_SH_copyFrom_64 rfl 0 rfl ?_
  refine g_aload_n (pc := 65) d_SH_copyFrom_65 rfl 1 rfl ?_
  refine g_getIX (pc := 66) (ci := 5) (f := 7) (hI h r 7) rfl d_SH_copyFrom_66 fl_SH_36 (by decide) hr (by simp only [sI_sA, sA_sA, hI_sA_same, hI_sA_ne har]) ?_
  refine g_putI (pc := 69) (ci := 5) (f := 7) rfl d_SH_copyFrom_69 fl_SH_36 (fun q hq => by cases hq; exact rfl) rfl rfl (by decide) (by assumption) ?_
  refine g_aload_n (pc := 72) d_SH_copyFrom_72 rfl 0 rfl ?_
  refine g_aload_n (pc := 73) d_SH_copyFrom_73 rfl 1 rfl ?_
  refine g_getIX (pc := 74) (ci := 5) (f := 8) (hI h r 8) rfl d_SH_copyFrom_74 fl_SH_39 (by decide) hr (by simp only [sI_sA, sA_sA, hI_sA_same, hI_sA_ne har]) ?_
  refine g_putI (pc := 77) (ci := 5) (f := 8) rfl d_SH_copyFrom_77 fl_SH_39 (fun q hq => by cases hq; exact rfl) rfl rfl (by decide) (by assumption) ?_
  refine g_aload_n (pc := 80) d_SH_copyFrom_80 rfl 0 rfl ?_
  refine g_aload_n (pc := 81) d_SH_copyFrom_81 rfl 1 rfl ?_
  refine g_getIX (pc := 82) (ci := 5) (f := 9) (hI h r 9) rfl d_SH_copyFrom_82 fl_SH_42 (by decide) hr (by simp only [sI_sA, sA_sA, hI_sA_same, hI_sA_ne har]) ?_
  refine g_putI (pc := 85) (ci := 5) (f := 9) rfl d_SH_copyFrom_85 fl_SH_42 (fun q hq => by cases hq; exact rfl) rfl rfl (by decide) (by assumption) ?_
  refine g_aload_n (pc := 88) d_SH_copyFrom_88 rfl 0 rfl ?_
  refine g_aload_n (pc := 89) d_SH_copyFrom_89 rfl 1 rfl ?_
  refine g_getIX (pc := 90) (ci := 5) (f := 10) (hI h r 10) rfl d_SH_copyFrom_90 fl_SH_45 (by decide) hr (by simp only [sI_sA, sA_sA, hI_sA_same, hI_sA_ne har]) ?_
  refine g_putI (pc := 93) (ci := 5) (f := 10) rfl d_SH_copyFrom_93 fl_SH_45 (fun q hq => by cases hq; exact rfl) rfl rfl (by decide) (by assumption) ?_
  refine g_aload_n (pc := 96) d_SH_copyFrom_96 rfl 0 rfl ?_
  refine g_aload_n (pc := 97) d_SH_copyFrom_97 rfl 1 rfl ?_
  refine g_getIX (pc := 98) (ci := 5) (f := 11) (hI h r 11) rfl d_SH_copyFrom_98 fl_SH_48 (by decide) hr (by simp only [sI_sA, sA_sA, hI_sA_same, hI_sA_ne har]) ?_
  refine g_putI (pc := 101) (ci := 5) (f := 11) rfl d_SH_copyFrom_101 fl_SH_48 (fun q hq => by cases hq; exact rfl) rfl rfl (by decide) (by assumption) ?_
  refine g_aload_n (pc := 104) d_SH_copyFrom_104 rfl 0 rfl ?_
  refine g_aload_n (pc := 105) d_SH_copyFrom_105 rfl 1 rfl ?_
  refine g_getIX (pc := 106) (ci := 5) (f := 13) (hI h r 13) rfl d_SH_copyFrom_106 fl_SH_51 (by decide) hr (by simp only [sI_sA, sA_sA, hI_sA_same, hI_sA_ne har]) ?_
  refine g_putI (pc := 109) (ci := 5) (f := 13) rfl d_SH_copyFrom_109 fl_SH_51 (fun q hq => by cases hq; exact rfl) rfl rfl (by decide) (by assumption) ?_
  refine g_aload_n (pc := 112) d_SH_copyFrom_112 rfl 0 rfl ?_
  refine g_aload_n (pc := 113) d_SH_copyFrom_113 rfl 1 rfl ?_
  refine g_getIX (pc := 114) (ci := 5) (f := 14) (hI h r 14) rfl d_SH_copyFrom_114 fl_SH_54 (by decide) hr (by simp only [sI_sA, sA_sA, hI_sA_same, hI_sA_ne har]) ?_
  refine g_putI (pc := 117) (ci := 5) (f := 14) rfl d_SH_copyFrom_117 fl_SH_54 (fun q hq => by cases hq; exact rfl) rfl rfl (by decide) (by assumption) ?_
  refine g_aload_n (pc := 120) d_SH_copyFrom_120 rfl 0 rfl ?_
  refine g_aload_n (pc := 121) d_SH_copyFrom_121 rfl 1 rfl ?_
  refine g_getIX (pc := 122) (ci := 5) (f := 12) (hI h r 12) rfl d_SH_copyFrom_122 fl_SH_57 (by decide) hr (by simp only [sI_sA, sA_sA, hI_sA_same, hI_sA_ne har]) ?_
  refine g_putI (pc := 125) (ci := 5) (f := 12) rfl d_SH_copyFrom_125 fl_SH_57 (fun q hq => by cases hq; exact rfl) (by rcases ho with z | z <;> rw [z] <;> rfl) (by rcases ho with z | z <;> rw [z] <;> rfl) (by decide) (by assumption) ?_
  refine g_vret (pc := 128) d_SH_copyFrom_128 rfl ?_
  refine ⟨rfl, ?_⟩
  simp only [sI_sA, sA_sA, hI_sA_same, hI_sA_ne har]
  refine congrArg (sA h a) ?_
  funext q
  by_cases hq : q < 16
  · rcases (show q = 0 ∨ q = 1 ∨ q = 2 ∨ q = 3 ∨ q = 4 ∨ q = 5 ∨ q = 6 ∨ q = 7 ∨ q = 8 ∨ q = 9 ∨ q = 10 ∨ q = 11 ∨ q = 12 ∨ q = 13 ∨ q = 14 ∨ q = 15 by omega) with rfl | rfl | rfl | rfl | rfl | rfl | rfl | rfl | rfl | rfl | rfl | rfl | rfl | rfl | rfl | rfl <;> simp [u1_at, M_copy]
  · have z : ∀ j, j < 16 → q ≠ j := fun j hj e => hq (by omega)
    simp only [u1_at, M_copy]
    simp [z, hq]
theorem cb_SH_begin {E : En} {h : Hp} {b i r : Nat} {B : Bu} (hB : BuOk h b) (hi : i < 8) (hr : hK h r = 20) (hl : hL h r = 8) (hf : Fo h b r) : CR E m_SH_begin [.ref (sh h b i), .ref r] (wB h b B) none (wB h b (sS B i (M_begin (B.2.2 i) (hI h r)))) := by
  have z := ct_SH_begin (E := E) (h := wB h b B) (a := sh h b i) (r := r) (hB.sk hi) hr hl
  rw [hI_wB_s hB hi, wB_s hB hi, hI_fo hf] at z
  exact z
theorem cb_SH_copyFrom {E : En} {h : Hp} {b c i : Nat} {B : Bu} (hB : BuOk h b) (hC : BuOk h c) (d : Dis h b c) (hi : i < 8) (ho : hI h (sh h c i) 12 = 0 ∨ hI h (sh h c i) 12 = 1) : CR E m_SH_copyFrom [.ref (sh h b i), .ref (sh h c i)] (wB h b B) none (wB h b (sS B i (M_copy 16 (B.2.2 i) ((vB h c).2.2 i)))) := by
  have hf := (d.fo hB hC).2.2 i hi
  have z := ct_SH_copyFrom (E := E) (h := wB h b B) (a := sh h b i) (r := sh h c i) (hB.sk hi) (hC.sk hi) (d.2.2 i i hi hi).symm (by rw [hI_fo hf]; exact ho)
  rw [hI_wB_s hB hi, wB_s hB hi, hI_fo hf, ← vB_s hi] at z
  exact z
def P_addS (B : Bu) (sc : Nat) (r : Nat → Int32) : Bu := (u1 B.1 8 (nI (sc + 1)), B.2.1, u1 B.2.2 sc (M_begin (B.2.2 sc) r))
set_option maxRecDepth 20000 in
theorem cb_addShop {E : En} {h : Hp} {b sc r : Nat} {B : Bu} (hB : BuOk h b) (hs : B.1 8 = nI sc) (hn : sc < 8) (hr : hK h r = 20) (hl : hL h r = 8) (hf : Fo h b r) : CR E m_BU_addShop [.ref b, .ref r] (wB h b B) (none) (wB h b (P_addS B sc (hI h r))) := by
  refine ct_of rfl (by decide +kernel) (Nat.le_of_ble_eq_true rfl) ?_
  show G E m_BU_addShop 0 [(0, .ref b), (1, .ref r)] [] (wB h b B) 0 0 _ noX
  refine g_aload_n (pc := 0) d_BU_addShop_0 rfl 0 rfl ?_
  refine g_bgI (pc := 1) (f := 8) rfl d_BU_addShop_1 fl_BU_56 hB ?_
  refine g_bipush (pc := 4) (v := 8) d_BU_addShop_4 (by decide) ?_
  refine g_icmp_ge (pc := 6) (tgt := 32) d_BU_addShop_6 (by decide) (fun c_6 => ?_) (fun c_6 => ?_)
  · exact absurd ((nI_leI (a := 8) (b := sc) (by omega) (by omega)).mp (by rw [hs] at c_6; exact c_6)) (by omega)
  · skip
    refine g_aload_n (pc := 9) d_BU_addShop_9 rfl 0 rfl ?_
    refine g_bgS (pc := 10) d_BU_addShop_10 fl_BU_17 hB ?_
    refine g_aload_n (pc := 13) d_BU_addShop_13 rfl 0 rfl ?_
    refine g_bgI (pc := 14) (f := 8) rfl d_BU_addShop_14 fl_BU_56 hB ?_
    refine g_top hs ?_
    refine g_bsl (pc := 17) d_BU_addShop_17 hB hn ?_
    refine g_aload_n (pc := 18) d_BU_addShop_18 rfl 1 rfl ?_
    refine g_cV0 (pc := 19) (ci := 5) (As := [.ref _]) d_BU_addShop_19 rfl mv_SH_begin st_BU_addShop_59 rfl rfl (by decide) rfl rfl (Nat.le_of_ble_eq_true rfl) (hB.sk hn) (cb_SH_begin hB hn hr hl hf) ?_
    refine g_aload_n (pc := 22) d_BU_addShop_22 rfl 0 rfl ?_
    refine g_dup (pc := 23) d_BU_addShop_23 rfl ?_
    refine g_bgI (pc := 24) (f := 8) rfl d_BU_addShop_24 fl_BU_56 hB ?_
    refine g_iconst (pc := 27) (v := 1) d_BU_addShop_27 (by decide) ?_
    refine g_iadd (pc := 28) d_BU_addShop_28 ?_
    refine g_bpI (pc := 29) (f := 8) rfl d_BU_addShop_29 fl_BU_56 (fun q hq => by cases hq; exact rfl) rfl rfl hB ?_
    refine g_vret (pc := 32) d_BU_addShop_32 rfl ?_
    refine ⟨rfl, ?_⟩
    unfold P_addS sC sS
    rw [show (B.1, B.2.1, u1 B.2.2 sc (M_begin (B.2.2 sc) (hI h r))).1 8 = nI sc from hs]
    rw [← nI_1]
set_option maxRecDepth 20000 in
theorem cb_begin {E : En} {h : Hp} {b r : Nat} {B : Bu} (hB : BuOk h b) (hr : hK h r = 20) (hl : hL h r = 8) (hf : Fo h b r) : CR E m_BU_begin [.ref b, .ref r] (wB h b B) (none) (wB h b (M_beginB B.1 (hI h r), B.2)) := by
  refine ct_of rfl (by decide +kernel) (Nat.le_of_ble_eq_true rfl) ?_
  show G E m_BU_begin 0 [(0, .ref b), (1, .ref r)] [] (wB h b B) 0 0 _ noX
  refine g_aload_n (pc := 0) d_BU_begin_0 rfl 0 rfl ?_
  refine g_aload_n (pc := 1) d_BU_begin_1 rfl 1 rfl ?_
  refine g_iconst (pc := 2) (v := 0) d_BU_begin_2 (by decide) ?_
  refine g_ialoadX (pc := 3) (j := 0) (hI h r 0) d_BU_begin_3 hr (show 0 < hL h r by rw [hl]; decide) (show hL h r < 2 ^ 31 by rw [hl]; decide) (by rw [hI_fo hf]) ?_
  refine g_bpI (pc := 4) (f := 0) rfl d_BU_begin_4 fl_BU_22 (fun q hq => by cases hq; exact rfl) rfl rfl hB ?_
  refine g_aload_n (pc := 7) d_BU_begin_7 rfl 0 rfl ?_
  refine g_aload_n (pc := 8) d_BU_begin_8 rfl 1 rfl ?_
  refine g_iconst (pc := 9) (v := 1) d_BU_begin_9 (by decide) ?_
  refine g_ialoadX (pc := 10) (j := 1) (hI h r 1) d_BU_begin_10 hr (show 1 < hL h r by rw [hl]; decide) (show hL h r < 2 ^ 31 by rw [hl]; decide) (by rw [hI_fo hf]) ?_
  refine g_bpI (pc := 11) (f := 1) rfl d_BU_begin_11 fl_BU_26 (fun q hq => by cases hq; exact rfl) rfl rfl hB ?_
  refine g_aload_n (pc := 14) d_BU_begin_14 rfl 0 rfl ?_
  refine g_aload_n (pc := 15) d_BU_begin_15 rfl 1 rfl ?_
  refine g_iconst (pc := 16) (v := 2) d_BU_begin_16 (by decide) ?_
  refine g_ialoadX (pc := 17) (j := 2) (hI h r 2) d_BU_begin_17 hr (show 2 < hL h r by rw [hl]; decide) (show hL h r < 2 ^ 31 by rw [hl]; decide) (by rw [hI_fo hf]) ?_
  refine g_bpI (pc := 18) (f := 2) rfl d_BU_begin_18 fl_BU_29 (fun q hq => by cases hq; exact rfl) rfl rfl hB ?_
  refine g_aload_n (pc := 21) d_BU_begin_21 rfl 0 rfl ?_
  refine g_aload_n (pc := 22) d_BU_begin_22 rfl 1 rfl ?_
  refine g_iconst (pc := 23) (v := 3) d_BU_begin_23 (by decide) ?_
  refine g_ialoadX (pc := 24) (j := 3) (hI h r 3) d_BU_begin_24 hr (show 3 < hL h r by rw [hl]; decide) (show hL h r < 2 ^ 31 by rw [hl]; decide) (by rw [hI_fo hf]) ?_
  refine g_bpI (pc := 25) (f := 3) rfl d_BU_begin_25 fl_BU_32 (fun q hq => by cases hq; exact rfl) rfl rfl hB ?_
  refine g_aload_n (pc := 28) d_BU_begin_28 rfl 0 rfl ?_
  refine g_aload_n (pc := 29) d_BU_begin_29 rfl 1 rfl ?_
  refine g_iconst (pc := 30) (v := 4) d_BU_begin_30 (by decide) ?_
  refine g_ialoadX (pc := 31) (j := 4) (hI h r 4) d_BU_begin_31 hr (show 4 < hL h r by rw [hl]; decide) (show hL h r < 2 ^ 31 by rw [hl]; decide) (by rw [hI_fo hf]) ?_
  refine g_bpI (pc := 32) (f := 4) rfl d_BU_begin_32 fl_BU_35 (fun q hq => by cases hq; exact rfl) rfl rfl hB ?_
  refine g_aload_n (pc := 35) d_BU_begin_35 rfl 0 rfl ?_
  refine g_aload_n (pc := 36) d_BU_begin_36 rfl 1 rfl ?_
  refine g_iconst (pc := 37) (v := 5) d_BU_begin_37 (by decide) ?_
  refine g_ialoadX (pc := 38) (j := 5) (hI h r 5) d_BU_begin_38 hr (show 5 < hL h r by rw [hl]; decide) (show hL h r < 2 ^ 31 by rw [hl]; decide) (by rw [hI_fo hf]) ?_
  refine g_bpI (pc := 39) (f := 5) rfl d_BU_begin_39 fl_BU_38 (fun q hq => by cases hq; exact rfl) rfl rfl hB ?_
  refine g_aload_n (pc := 42) d_BU_begin_42 rfl 0 rfl ?_
  refine g_aload_n (pc := 43) d_BU_begin_43 rfl 1 rfl ?_
  refine g_bipush (pc := 44) (v := 6) d_BU_begin_44 (by decide) ?_
  refine g_ialoadX (pc := 46) (j := 6) (hI h r 6) d_BU_begin_46 hr (show 6 < hL h r by rw [hl]; decide) (show hL h r < 2 ^ 31 by rw [hl]; decide) (by rw [hI_fo hf]) ?_
  refine g_bpI (pc := 47) (f := 6) rfl d_BU_begin_47 fl_BU_41 (fun q hq => by cases hq; exact rfl) rfl rfl hB ?_
  refine g_aload_n (pc := 50) d_BU_begin_50 rfl 0 rfl ?_
  refine g_iconst (pc := 51) (v := 0) d_BU_begin_51 (by decide) ?_
  refine g_bpI (pc := 52) (f := 10) rfl d_BU_begin_52 fl_BU_44 (fun q hq => by cases hq; exact rfl) rfl rfl hB ?_
  refine g_aload_n (pc := 55) d_BU_begin_55 rfl 0 rfl ?_
  refine g_iconst (pc := 56) (v := 0) d_BU_begin_56 (by decide) ?_
  refine g_bpI (pc := 57) (f := 11) rfl d_BU_begin_57 fl_BU_47 (fun q hq => by cases hq; exact rfl) rfl rfl hB ?_
  refine g_aload_n (pc := 60) d_BU_begin_60 rfl 0 rfl ?_
  refine g_iconst (pc := 61) (v := 0) d_BU_begin_61 (by decide) ?_
  refine g_bpI (pc := 62) (f := 9) rfl d_BU_begin_62 fl_BU_50 (fun q hq => by cases hq; exact rfl) rfl rfl hB ?_
  refine g_aload_n (pc := 65) d_BU_begin_65 rfl 0 rfl ?_
  refine g_iconst (pc := 66) (v := 0) d_BU_begin_66 (by decide) ?_
  refine g_bpI (pc := 67) (f := 7) rfl d_BU_begin_67 fl_BU_53 (fun q hq => by cases hq; exact rfl) rfl rfl hB ?_
  refine g_aload_n (pc := 70) d_BU_begin_70 rfl 0 rfl ?_
  refine g_iconst (pc := 71) (v := 0) d_BU_begin_71 (by decide) ?_
  refine g_bpI (pc := 72) (f := 8) rfl d_BU_begin_72 fl_BU_56 (fun q hq => by cases hq; exact rfl) rfl rfl hB ?_
  refine g_vret (pc := 75) d_BU_begin_75 rfl ?_
  refine ⟨rfl, ?_⟩
  refine congrArg (wB h b) (Prod.ext ?_ rfl)
  funext q
  show _ = M_beginB B.1 (hI h r) q
  by_cases hq : q < 12
  · rcases (show q = 0 ∨ q = 1 ∨ q = 2 ∨ q = 3 ∨ q = 4 ∨ q = 5 ∨ q = 6 ∨ q = 7 ∨ q = 8 ∨ q = 9 ∨ q = 10 ∨ q = 11 by omega) with rfl | rfl | rfl | rfl | rfl | rfl | rfl | rfl | rfl | rfl | rfl | rfl <;> simp [u1_at, M_beginB, sC]
  · have z : ∀ j, j < 12 → q ≠ j := fun j hj e => hq (by omega)
    simp only [u1_at, M_beginB, sC]
    simp [z, hq, show ¬ q < 7 by omega]
theorem P_copy_w0 (B C : Bu) (f : Nat → Int32) : ((f, (fun j => if j < 0 then C.2.1 j else B.2.1 j), B.2.2) : Bu) = (f, B.2.1, B.2.2) := by
  refine Prod.ext rfl (Prod.ext ?_ rfl)
  funext j
  show (if j < 0 then C.2.1 j else B.2.1 j) = B.2.1 j
  exact if_neg (Nat.not_lt_zero j)
theorem u1_lt (n : Nat) (f g : Nat → Int32) : u1 (fun j => if j < n then f j else g j) n (f n) = fun j => if j < n + 1 then f j else g j := by
  funext q
  rw [u1_at]
  by_cases e : q = n
  · rw [if_pos e, e, if_pos (Nat.lt_succ_self n)]
  · rw [if_neg e]
    by_cases e2 : q < n
    · rw [if_pos e2, if_pos (by omega)]
    · rw [if_neg e2, if_neg (by omega)]
theorem u1_ltS (n : Nat) (f g : Nat → Nat → Int32) : u1 (fun i => if i < n then M_copy 16 (g i) (f i) else g i) n (M_copy 16 (g n) (f n)) = fun i => if i < n + 1 then M_copy 16 (g i) (f i) else g i := by
  funext q
  rw [u1_at]
  by_cases e : q = n
  · rw [if_pos e, e, if_pos (Nat.lt_succ_self n)]
  · rw [if_neg e]
    by_cases e2 : q < n
    · rw [if_pos e2, if_pos (by omega)]
    · rw [if_neg e2, if_neg (by omega)]
theorem lp_copyW {E : En} {h : Hp} {b c nw : Nat} {B : Bu} {PP : Option Value → Hp → Prop} (hB : BuOk h b) (hC : BuOk h c) (dis : Dis h b c) (hw : B.1 7 = nI nw) (hn : nw ≤ 6) (kk : G E m_BU_copyFrom 124 [(2, .int (nI nw)), (0, .ref b), (1, .ref c)] [] (wB h b (B.1, (fun j => if j < nw then (vB h c).2.1 j else B.2.1 j), B.2.2)) 0 0 PP noX) : ∀ (d i : Nat), i ≤ nw → nw - i < d → G E m_BU_copyFrom 98 [(2, .int (nI i)), (0, .ref b), (1, .ref c)] [] (wB h b (B.1, (fun j => if j < i then (vB h c).2.1 j else B.2.1 j), B.2.2)) 0 0 PP noX := by
  have hf := dis.fo hB hC
  intro d
  induction d with
  | zero => intros; omega
  | succ d ih =>
    intro i hi hd
    refine g_iload_n (pc := 98) d_BU_copyFrom_98 rfl 0 rfl ?_
    refine g_aload_n (pc := 99) d_BU_copyFrom_99 rfl 1 rfl ?_
    refine g_bgI (pc := 100) (f := 7) rfl d_BU_copyFrom_100 fl_BU_53 hB ?_
    refine g_icmp_ge (pc := 103) (tgt := 124) d_BU_copyFrom_103 (by decide) (fun c_103 => ?_) (fun c_103 => ?_)
    · skip
      have e9 : i = nw := by rw [hw] at c_103; have := (nI_leI (by omega) (by omega)).mp c_103; omega
      subst e9
      exact kk
    · skip
      have e9 : i < nw := by rw [hw] at c_103; exact Nat.lt_of_not_le (fun z => c_103 ((nI_leI (by omega) (by omega)).mpr z))
      refine g_aload_n (pc := 106) d_BU_copyFrom_106 rfl 1 rfl ?_
      refine g_bgW (pc := 107) d_BU_copyFrom_107 fl_BU_9 hB ?_
      refine g_iload_n (pc := 110) d_BU_copyFrom_110 rfl 0 rfl ?_
      refine g_aload_n (pc := 111) d_BU_copyFrom_111 rfl 2 rfl ?_
      refine g_getAX (pc := 112) (ci := 4) (f := 12) (rA h c 12) rfl d_BU_copyFrom_112 fl_BU_9 (by decide) hC.1 hC.2.1 rfl ?_
      refine g_iload_n (pc := 115) d_BU_copyFrom_115 rfl 0 rfl ?_
      refine g_ialoadX (pc := 116) ((vB h c).2.1 i) d_BU_copyFrom_116 hC.hw.1 (show i < hL h (rA h c 12) by rw [hC.hw.2]; omega) (show hL h (rA h c 12) < 2 ^ 31 by rw [hC.hw.2]; decide) (by rw [hI_fo hf.2.1]; rfl) ?_
      refine g_bws (pc := 117) d_BU_copyFrom_117 hB (by first | assumption | omega) ?_
      obtain ⟨x_1, hx_1⟩ : ∃ y : Int32, y = (nI i) + 1 := ⟨_, rfl⟩
      refine g_iinc (pc := 118) (w := 0) (v := x_1) (lv' := [(2, .int x_1), (0, .ref b), (1, .ref c)]) d_BU_copyFrom_118 rfl (by rw [hx_1]; rfl) (by decide) rfl ?_
      refine g_goto (pc := 121) (tgt := 98) d_BU_copyFrom_121 (by decide) ?_
      have e8 : x_1 = nI (i + 1) := by rw [hx_1]; exact nI_1 _
      clear hx_1
      subst e8
      refine g_perm [0, 1, 2] rfl ?_
      refine g_h (h' := wB h b (B.1, (fun j => if j < i + 1 then (vB h c).2.1 j else B.2.1 j), B.2.2)) (congrArg (wB h b) ?_) (ih (i + 1) (by omega) (by omega))
      rw [← u1_lt]
      rfl
theorem lp_copyS {E : En} {h : Hp} {b c sc : Nat} {B : Bu} (hB : BuOk h b) (hC : BuOk h c) (dis : Dis h b c) (hs : B.1 8 = nI sc) (hm : sc ≤ 8) (ho : ∀ i, i < sc → (vB h c).2.2 i 12 = 0 ∨ (vB h c).2.2 i 12 = 1) : ∀ (d i : Nat), i ≤ sc → sc - i < d → G E m_BU_copyFrom 126 [(2, .int (nI i)), (0, .ref b), (1, .ref c)] [] (wB h b (B.1, B.2.1, fun q => if q < i then M_copy 16 (B.2.2 q) ((vB h c).2.2 q) else B.2.2 q)) 0 0 (fun v h' => v = none ∧ h' = wB h b (B.1, B.2.1, fun q => if q < sc then M_copy 16 (B.2.2 q) ((vB h c).2.2 q) else B.2.2 q)) noX := by
  have hf := dis.fo hB hC
  intro d
  induction d with
  | zero => intros; omega
  | succ d ih =>
    intro i hi hd
    refine g_iload_n (pc := 126) d_BU_copyFrom_126 rfl 0 rfl ?_
    refine g_aload_n (pc := 127) d_BU_copyFrom_127 rfl 1 rfl ?_
    refine g_bgI (pc := 128) (f := 8) rfl d_BU_copyFrom_128 fl_BU_56 hB ?_
    refine g_icmp_ge (pc := 131) (tgt := 155) d_BU_copyFrom_131 (by decide) (fun c_131 => ?_) (fun c_131 => ?_)
    · skip
      have e9 : i = sc := by rw [hs] at c_131; have := (nI_leI (by omega) (by omega)).mp c_131; omega
      refine g_vret (pc := 155) d_BU_copyFrom_155 rfl ?_
      rw [e9]
      exact ⟨rfl, rfl⟩
    · skip
      have e9 : i < sc := by rw [hs] at c_131; exact Nat.lt_of_not_le (fun z => c_131 ((nI_leI (by omega) (by omega)).mpr z))
      refine g_aload_n (pc := 134) d_BU_copyFrom_134 rfl 1 rfl ?_
      refine g_bgS (pc := 135) d_BU_copyFrom_135 fl_BU_17 hB ?_
      refine g_iload_n (pc := 138) d_BU_copyFrom_138 rfl 0 rfl ?_
      refine g_bsl (pc := 139) d_BU_copyFrom_139 hB (by first | assumption | omega) ?_
      refine g_aload_n (pc := 140) d_BU_copyFrom_140 rfl 2 rfl ?_
      refine g_getAX (pc := 141) (ci := 4) (f := 13) (rA h c 13) rfl d_BU_copyFrom_141 fl_BU_17 (by decide) hC.1 hC.2.2.1 rfl ?_
      refine g_iload_n (pc := 144) d_BU_copyFrom_144 rfl 0 rfl ?_
      refine g_aaloadX (pc := 145) (kd := 26) (sh h c i) d_BU_copyFrom_145 (Or.inr rfl) hC.hs.1 (show i < hL h (rA h c 13) by rw [hC.hs.2]; omega) (show hL h (rA h c 13) < 2 ^ 31 by rw [hC.hs.2]; decide) (hC.so (by omega)) rfl ?_
      refine g_cV0 (pc := 146) (ci := 5) (As := [.ref _]) d_BU_copyFrom_146 rfl mv_SH_copyFrom st_BU_copyFrom_63 rfl rfl (by decide) rfl rfl (Nat.le_of_ble_eq_true rfl) (hB.sk (by omega)) (cb_SH_copyFrom hB hC dis (by omega) (by rw [← vB_s (by omega)]; exact ho i e9)) ?_
      obtain ⟨x_1, hx_1⟩ : ∃ y : Int32, y = (nI i) + 1 := ⟨_, rfl⟩
      refine g_iinc (pc := 149) (w := 0) (v := x_1) (lv' := [(2, .int x_1), (0, .ref b), (1, .ref c)]) d_BU_copyFrom_149 rfl (by rw [hx_1]; rfl) (by decide) rfl ?_
      refine g_goto (pc := 152) (tgt := 126) d_BU_copyFrom_152 (by decide) ?_
      have e8 : x_1 = nI (i + 1) := by rw [hx_1]; exact nI_1 _
      clear hx_1
      subst e8
      refine g_perm [0, 1, 2] rfl ?_
      refine g_h (h' := wB h b (B.1, B.2.1, fun q => if q < i + 1 then M_copy 16 (B.2.2 q) ((vB h c).2.2 q) else B.2.2 q)) (congrArg (wB h b) ?_) (ih (i + 1) (by omega) (by omega))
      rw [← u1_ltS]
      show ((B.1, B.2.1, u1 (fun q => if q < i then M_copy 16 (B.2.2 q) ((vB h c).2.2 q) else B.2.2 q) i (M_copy 16 (if i < i then M_copy 16 (B.2.2 i) ((vB h c).2.2 i) else B.2.2 i) ((vB h c).2.2 i))) : Bu) = _
      rw [if_neg (Nat.lt_irrefl i)]
set_option maxRecDepth 20000 in
theorem cb_copyFrom {E : En} {h : Hp} {b c nw sc : Nat} {B : Bu} (hB : BuOk h b) (hC : BuOk h c) (dis : Dis h b c) (hw : (vB h c).1 7 = nI nw) (hn : nw ≤ 6) (hs : (vB h c).1 8 = nI sc) (hm : sc ≤ 8) (ho : ∀ i, i < sc → (vB h c).2.2 i 12 = 0 ∨ (vB h c).2.2 i 12 = 1) : CR E m_BU_copyFrom [.ref b, .ref c] (wB h b B) (none) (wB h b (P_copy nw sc B (vB h c))) := by
  refine ct_of rfl (by decide +kernel) (Nat.le_of_ble_eq_true rfl) ?_
  show G E m_BU_copyFrom 0 [(0, .ref b), (1, .ref c)] [] (wB h b B) 0 0 _ noX
  have hf := dis.fo hB hC
  refine g_aload_n (pc := 0) d_BU_copyFrom_0 rfl 0 rfl ?_
  refine g_aload_n (pc := 1) d_BU_copyFrom_1 rfl 1 rfl ?_
  refine g_getIX (pc := 2) (ci := 4) (f := 0) (hI h c 0) rfl d_BU_copyFrom_2 fl_BU_22 (by decide) hC.1 (by rw [hI_fo hf.1]) ?_
  refine g_bpI (pc := 5) (f := 0) rfl d_BU_copyFrom_5 fl_BU_22 (fun q hq => by cases hq; exact rfl) rfl rfl hB ?_
  refine g_aload_n (pc := 8) d_BU_copyFrom_8 rfl 0 rfl ?_
  refine g_aload_n (pc := 9) d_BU_copyFrom_9 rfl 1 rfl ?_
  refine g_getIX (pc := 10) (ci := 4) (f := 1) (hI h c 1) rfl d_BU_copyFrom_10 fl_BU_26 (by decide) hC.1 (by rw [hI_fo hf.1]) ?_
  refine g_bpI (pc := 13) (f := 1) rfl d_BU_copyFrom_13 fl_BU_26 (fun q hq => by cases hq; exact rfl) rfl rfl hB ?_
  refine g_aload_n (pc := 16) d_BU_copyFrom_16 rfl 0 rfl ?_
  refine g_aload_n (pc := 17) d_BU_copyFrom_17 rfl 1 rfl ?_
  refine g_getIX (pc := 18) (ci := 4) (f := 2) (hI h c 2) rfl d_BU_copyFrom_18 fl_BU_29 (by decide) hC.1 (by rw [hI_fo hf.1]) ?_
  refine g_bpI (pc := 21) (f := 2) rfl d_BU_copyFrom_21 fl_BU_29 (fun q hq => by cases hq; exact rfl) rfl rfl hB ?_
  refine g_aload_n (pc := 24) d_BU_copyFrom_24 rfl 0 rfl ?_
  refine g_aload_n (pc := 25) d_BU_copyFrom_25 rfl 1 rfl ?_
  refine g_getIX (pc := 26) (ci := 4) (f := 3) (hI h c 3) rfl d_BU_copyFrom_26 fl_BU_32 (by decide) hC.1 (by rw [hI_fo hf.1]) ?_
  refine g_bpI (pc := 29) (f := 3) rfl d_BU_copyFrom_29 fl_BU_32 (fun q hq => by cases hq; exact rfl) rfl rfl hB ?_
  refine g_aload_n (pc := 32) d_BU_copyFrom_32 rfl 0 rfl ?_
  refine g_aload_n (pc := 33) d_BU_copyFrom_33 rfl 1 rfl ?_
  refine g_getIX (pc := 34) (ci := 4) (f := 4) (hI h c 4) rfl d_BU_copyFrom_34 fl_BU_35 (by decide) hC.1 (by rw [hI_fo hf.1]) ?_
  refine g_bpI (pc := 37) (f := 4) rfl d_BU_copyFrom_37 fl_BU_35 (fun q hq => by cases hq; exact rfl) rfl rfl hB ?_
  refine g_aload_n (pc := 40) d_BU_copyFrom_40 rfl 0 rfl ?_
  refine g_aload_n (pc := 41) d_BU_copyFrom_41 rfl 1 rfl ?_
  refine g_getIX (pc := 42) (ci := 4) (f := 5) (hI h c 5) rfl d_BU_copyFrom_42 fl_BU_38 (by decide) hC.1 (by rw [hI_fo hf.1]) ?_
  refine g_bpI (pc := 45) (f := 5) rfl d_BU_copyFrom_45 fl_BU_38 (fun q hq => by cases hq; exact rfl) rfl rfl hB ?_
  refine g_aload_n (pc := 48) d_BU_copyFrom_48 rfl 0 rfl ?_
  refine g_aload_n (pc := 49) d_BU_copyFrom_49 rfl 1 rfl ?_
  refine g_getIX (pc := 50) (ci := 4) (f := 6) (hI h c 6) rfl d_BU_copyFrom_50 fl_BU_41 (by decide) hC.1 (by rw [hI_fo hf.1]) ?_
  refine g_bpI (pc := 53) (f := 6) rfl d_BU_copyFrom_53 fl_BU_41 (fun q hq => by cases hq; exact rfl) rfl rfl hB ?_
  refine g_aload_n (pc := 56) d_BU_copyFrom_56 rfl 0 rfl ?_
  refine g_aload_n (pc := 57) d_BU_copyFrom_57 rfl 1 rfl ?_
  refine g_getIX (pc := 58) (ci := 4) (f := 10) (hI h c 10) rfl d_BU_copyFrom_58 fl_BU_44 (by decide) hC.1 (by rw [hI_fo hf.1]) ?_
  refine g_bpI (pc := 61) (f := 10) rfl d_BU_copyFrom_61 fl_BU_44 (fun q hq => by cases hq; exact rfl) rfl rfl hB ?_
  refine g_aload_n (pc := 64) d_BU_copyFrom_64 rfl 0 rfl ?_
  refine g_aload_n (pc := 65) d_BU_copyFrom_65 rfl 1 rfl ?_
  refine g_getIX (pc := 66) (ci := 4) (f := 11) (hI h c 11) rfl d_BU_copyFrom_66 fl_BU_47 (by decide) hC.1 (by rw [hI_fo hf.1]) ?_
  refine g_bpI (pc := 69) (f := 11) rfl d_BU_copyFrom_69 fl_BU_47 (fun q hq => by cases hq; exact rfl) rfl rfl hB ?_
  refine g_aload_n (pc := 72) d_BU_copyFrom_72 rfl 0 rfl ?_
  refine g_aload_n (pc := 73) d_BU_copyFrom_73 rfl 1 rfl ?_
  refine g_getIX (pc := 74) (ci := 4) (f := 9) (hI h c 9) rfl d_BU_copyFrom_74 fl_BU_50 (by decide) hC.1 (by rw [hI_fo hf.1]) ?_
  refine g_bpI (pc := 77) (f := 9) rfl d_BU_copyFrom_77 fl_BU_50 (fun q hq => by cases hq; exact rfl) rfl rfl hB ?_
  refine g_aload_n (pc := 80) d_BU_copyFrom_80 rfl 0 rfl ?_
  refine g_aload_n (pc := 81) d_BU_copyFrom_81 rfl 1 rfl ?_
  refine g_getIX (pc := 82) (ci := 4) (f := 7) (hI h c 7) rfl d_BU_copyFrom_82 fl_BU_53 (by decide) hC.1 (by rw [hI_fo hf.1]) ?_
  refine g_bpI (pc := 85) (f := 7) rfl d_BU_copyFrom_85 fl_BU_53 (fun q hq => by cases hq; exact rfl) rfl rfl hB ?_
  refine g_aload_n (pc := 88) d_BU_copyFrom_88 rfl 0 rfl ?_
  refine g_aload_n (pc := 89) d_BU_copyFrom_89 rfl 1 rfl ?_
  refine g_getIX (pc := 90) (ci := 4) (f := 8) (hI h c 8) rfl d_BU_copyFrom_90 fl_BU_56 (by decide) hC.1 (by rw [hI_fo hf.1]) ?_
  refine g_bpI (pc := 93) (f := 8) rfl d_BU_copyFrom_93 fl_BU_56 (fun q hq => by cases hq; exact rfl) rfl rfl hB ?_
  refine g_iconst (pc := 96) (v := 0) d_BU_copyFrom_96 (by decide) ?_
  refine g_nameI (fun x_1 hx_1 => ?_)
  refine g_istore_n (pc := 97) (lv' := [(2, .int x_1), (0, .ref b), (1, .ref c)]) d_BU_copyFrom_97 rfl (by decide) rfl ?_
  refine g_h (h' := wB h b (M_copy 12 B.1 (vB h c).1, (fun j => if j < 0 then (vB h c).2.1 j else B.2.1 j), B.2.2)) (congrArg (wB h b) ?_) ?_
  · rw [P_copy_w0]
    refine Prod.ext ?_ rfl
    funext q
    rw [vB_1]
    by_cases hq : q < 12
    · rcases (show q = 0 ∨ q = 1 ∨ q = 2 ∨ q = 3 ∨ q = 4 ∨ q = 5 ∨ q = 6 ∨ q = 7 ∨ q = 8 ∨ q = 9 ∨ q = 10 ∨ q = 11 by omega) with rfl | rfl | rfl | rfl | rfl | rfl | rfl | rfl | rfl | rfl | rfl | rfl <;> simp [u1_at, M_copy, sC]
    · have z : ∀ j, j < 12 → q ≠ j := fun j hj e => hq (by omega)
      simp only [u1_at, M_copy, sC]
      simp [z, hq]
  subst hx_1
  refine lp_copyW (B := (M_copy 12 B.1 (vB h c).1, B.2.1, B.2.2)) hB hC dis hw hn ?_ (nw + 1) 0 (Nat.zero_le _) (by omega)
  refine g_iconst (pc := 124) (v := 0) d_BU_copyFrom_124 (by decide) ?_
  refine g_nameI (fun x_1 hx_1 => ?_)
  refine g_istore_n (pc := 125) (lv' := [(2, .int x_1), (0, .ref b), (1, .ref c)]) d_BU_copyFrom_125 rfl (by decide) rfl ?_
  subst hx_1
  refine g_perm [0, 1, 2] rfl ?_
  refine g_h (h' := wB h b (M_copy 12 B.1 (vB h c).1, (fun j => if j < nw then (vB h c).2.1 j else B.2.1 j), fun q => if q < 0 then M_copy 16 (B.2.2 q) ((vB h c).2.2 q) else B.2.2 q)) ?_ (lp_copyS (B := (M_copy 12 B.1 (vB h c).1, (fun j => if j < nw then (vB h c).2.1 j else B.2.1 j), B.2.2)) hB hC dis hs hm ho (sc + 1) 0 (Nat.zero_le _) (by omega))
  refine congrArg (wB h b) (Prod.ext rfl (Prod.ext rfl ?_))
  funext q
  show B.2.2 q = if q < 0 then M_copy 16 (B.2.2 q) ((vB h c).2.2 q) else B.2.2 q
  exact (if_neg (Nat.not_lt_zero q)).symm
