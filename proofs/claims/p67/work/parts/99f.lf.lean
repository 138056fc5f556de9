/-! THE START: what of it stays -/
def gvL : List Cond := flatC (Jvm.Cond.and given_1 narrow_1)
theorem gv {b : Nat} {s : State} (hg : (Jvm.Cond.and given_1 narrow_1).before #[Value.ref b] s = true) (n : Nat) {w : Cond} (h : gvL[n]? = some w) : w.before #[Value.ref b] s = true := flat_of_before _ hg w (List.mem_of_getElem? h)
theorem kn_start {b : Nat} {s : State} (hts : ∀ w ∈ lw_tbl, w.before #[Value.ref b] s = true) : ∃ (dC : Nat → ClassId) (dI : Nat → Nat → Nat), va_K (dC, dI) cls [] s := by
  obtain ⟨c0, i0, k0⟩ := u_known (C := "HonestScales") (T := F_0) (N := 7) (n := 7) hts (fun w hw => (cin_0 w hw).1) (hts _ (tq_1 (List.mem_of_getElem? (i := 29) rfl)))
  obtain ⟨c1, i1, k1⟩ := u_known (C := "HonestScales$Parser") (T := F_1) (N := 6) (n := 6) hts (fun w hw => (cin_1 w hw).1) (hts _ (tq_1 (List.mem_of_getElem? (i := 37) rfl)))
  obtain ⟨c2, i2, k2⟩ := u_known (C := "HonestScales$Input") (T := F_2) (N := 6) (n := 6) hts (fun w hw => (cin_2 w hw).1) (hts _ (tq_1 (List.mem_of_getElem? (i := 43) rfl)))
  obtain ⟨c3, i3, k3⟩ := u_known (C := "HonestScales$Script") (T := F_3) (N := 4) (n := 4) hts (fun w hw => (cin_3 w hw).1) (hts _ (tq_1 (List.mem_of_getElem? (i := 74) rfl)))
  obtain ⟨c4, i4, k4⟩ := u_known (C := "HonestScales$Bureau") (T := F_4) (N := 14) (n := 14) hts (fun w hw => (cin_4 w hw).1) (hts _ (tq_1 (List.mem_of_getElem? (i := 113) rfl)))
  obtain ⟨c5, i5, k5⟩ := u_known (C := "HonestScales$Shop") (T := F_5) (N := 16) (n := 16) hts (fun w hw => (cin_5 w hw).1) (hts _ (tq_1 (List.mem_of_getElem? (i := 120) rfl)))
  obtain ⟨c6, i6, k6⟩ := u_known (C := "HonestScales$History") (T := F_6) (N := 3) (n := 3) hts (fun w hw => (cin_6 w hw).1) (hts _ (tq_2 (List.mem_of_getElem? (i := 11) rfl)))
  obtain ⟨c7, i7, k7⟩ := u_known (C := "HonestScalesLaw$Bureau") (T := F_7) (N := 3) (n := 3) hts (fun w hw => (cin_7 w hw).1) (hts _ (tq_3 (List.mem_of_getElem? (i := 7) rfl)))
  obtain ⟨c8, i8, k8⟩ := u_known (C := "java/lang/StringBuilder") (T := F_8) (N := 4) (n := 4) hts (fun w hw => (cin_8 w hw).1) (hts _ (tq_2 (List.mem_of_getElem? (i := 29) rfl)))
  obtain ⟨c9, i9, k9⟩ := u_known (C := "HonestScalesLaw$Twin") (T := F_9) (N := 15) (n := 15) hts (fun w hw => (cin_9 w hw).1) (hts _ (tq_3 (List.mem_of_getElem? (i := 214) rfl)))
  obtain ⟨c10, i10, k10⟩ := u_known (C := "java/lang/String") (T := F_10) (N := 4) (n := 4) hts (fun w hw => (cin_10 w hw).1) (hts _ (tq_3 (List.mem_of_getElem? (i := 160) rfl)))
  refine ⟨fun k => match k with
    | 0 => c0
    | 1 => c1
    | 2 => c2
    | 3 => c3
    | 4 => c4
    | 5 => c5
    | 6 => c6
    | 7 => c7
    | 8 => c8
    | 9 => c9
    | _ => c10, fun k => match k with
    | 0 => i0
    | 1 => i1
    | 2 => i2
    | 3 => i3
    | 4 => i4
    | 5 => i5
    | 6 => i6
    | 7 => i7
    | 8 => i8
    | 9 => i9
    | _ => i10, fun k q hq => ?_, fun k q h => by simp at h⟩
  match k, hq with
  | 0, hq => cases hq; exact k0
  | 1, hq => cases hq; exact k1
  | 2, hq => cases hq; exact k2
  | 3, hq => cases hq; exact k3
  | 4, hq => cases hq; exact k4
  | 5, hq => cases hq; exact k5
  | 6, hq => cases hq; exact k6
  | 7, hq => cases hq; exact k7
  | 8, hq => cases hq; exact k8
  | 9, hq => cases hq; exact k9
  | 10, hq => cases hq; exact k10
  | k + 11, hq => simp [cls] at hq
theorem ge_0 : ∀ j, j < 14 → gvL[12 + j]? = some (Cond.eq (.elem (.static "HonestScales" "BUREAU_RANGES" "[I") (.int (Int32.ofNat j))) (.int (([0, 50, 0, 50, 0, 99, 1, 99, 1, 50, 0, 3, 0, 65536] : List Int32).getD j 0))) := by decide +kernel
theorem gt_0 {b : Nat} {s : State} (hg : (Jvm.Cond.and given_1 narrow_1).before #[Value.ref b] s = true) {A : Nat → Prop} (hA : ∀ a : Nat, a < s.heap.size → ¬ A a) : ∃ t : Nat, (Term.static "HonestScales" "BUREAU_RANGES" "[I").eval #[Value.ref b] s none [] s = some (.ref t) ∧ va_T .int t 14 (fun j => .int (([0, 50, 0, 50, 0, 99, 1, 99, 1, 50, 0, 3, 0, 65536] : List Int32).getD j 0)) A s s.heap :=
  va_Tof (by decide) (gv hg 10 (w := Cond.arrayOf (.static "HonestScales" "BUREAU_RANGES" "[I") .int) (by decide +kernel)) (va_eqt (z := Int32.ofNat 14) (gv hg 11 (by decide +kernel))) (fun j hj => va_eqt (gv hg (12 + j) (ge_0 j hj))) hA
theorem ge_1 : ∀ j, j < 16 → gvL[29 + j]? = some (Cond.eq (.elem (.static "HonestScales" "SHOP_RANGES" "[I") (.int (Int32.ofNat j))) (.int (([0, 9999, 0, 1000, 0, 100, 0, 10, 1, 5000, 0, 50, 0, 100, 0, 30] : List Int32).getD j 0))) := by decide +kernel
theorem gt_1 {b : Nat} {s : State} (hg : (Jvm.Cond.and given_1 narrow_1).before #[Value.ref b] s = true) {A : Nat → Prop} (hA : ∀ a : Nat, a < s.heap.size → ¬ A a) : ∃ t : Nat, (Term.static "HonestScales" "SHOP_RANGES" "[I").eval #[Value.ref b] s none [] s = some (.ref t) ∧ va_T .int t 16 (fun j => .int (([0, 9999, 0, 1000, 0, 100, 0, 10, 1, 5000, 0, 50, 0, 100, 0, 30] : List Int32).getD j 0)) A s s.heap :=
  va_Tof (by decide) (gv hg 27 (w := Cond.arrayOf (.static "HonestScales" "SHOP_RANGES" "[I") .int) (by decide +kernel)) (va_eqt (z := Int32.ofNat 16) (gv hg 28 (by decide +kernel))) (fun j hj => va_eqt (gv hg (29 + j) (ge_1 j hj))) hA
theorem ge_2 : ∀ j, j < 100 → gvL[151 + j]? = some (Cond.eq (.elem (.static "java/lang/Integer" "DigitTens" "[B") (.int (Int32.ofNat j))) (.int (([48, 48, 48, 48, 48, 48, 48, 48, 48, 48, 49, 49, 49, 49, 49, 49, 49, 49, 49, 49, 50, 50, 50, 50, 50, 50, 50, 50, 50, 50, 51, 51, 51, 51, 51, 51, 51, 51, 51, 51, 52, 52, 52, 52, 52, 52, 52, 52, 52, 52, 53, 53, 53, 53, 53, 53, 53, 53, 53, 53, 54, 54, 54, 54, 54, 54, 54, 54, 54, 54, 55, 55, 55, 55, 55, 55, 55, 55, 55, 55, 56, 56, 56, 56, 56, 56, 56, 56, 56, 56, 57, 57, 57, 57, 57, 57, 57, 57, 57, 57] : List Int32).getD j 0))) := by decide +kernel
theorem gt_2 {b : Nat} {s : State} (hg : (Jvm.Cond.and given_1 narrow_1).before #[Value.ref b] s = true) {A : Nat → Prop} (hA : ∀ a : Nat, a < s.heap.size → ¬ A a) : ∃ t : Nat, (Term.static "java/lang/Integer" "DigitTens" "[B").eval #[Value.ref b] s none [] s = some (.ref t) ∧ va_T .byte t 100 (fun j => .int (([48, 48, 48, 48, 48, 48, 48, 48, 48, 48, 49, 49, 49, 49, 49, 49, 49, 49, 49, 49, 50, 50, 50, 50, 50, 50, 50, 50, 50, 50, 51, 51, 51, 51, 51, 51, 51, 51, 51, 51, 52, 52, 52, 52, 52, 52, 52, 52, 52, 52, 53, 53, 53, 53, 53, 53, 53, 53, 53, 53, 54, 54, 54, 54, 54, 54, 54, 54, 54, 54, 55, 55, 55, 55, 55, 55, 55, 55, 55, 55, 56, 56, 56, 56, 56, 56, 56, 56, 56, 56, 57, 57, 57, 57, 57, 57, 57, 57, 57, 57] : List Int32).getD j 0)) A s s.heap :=
  va_Tof (by decide) (gv hg 149 (w := Cond.arrayOf (.static "java/lang/Integer" "DigitTens" "[B") .byte) (by decide +kernel)) (va_eqt (z := Int32.ofNat 100) (gv hg 150 (by decide +kernel))) (fun j hj => va_eqt (gv hg (151 + j) (ge_2 j hj))) hA
theorem ge_3 : ∀ j, j < 100 → gvL[48 + j]? = some (Cond.eq (.elem (.static "java/lang/Integer" "DigitOnes" "[B") (.int (Int32.ofNat j))) (.int (([48, 49, 50, 51, 52, 53, 54, 55, 56, 57, 48, 49, 50, 51, 52, 53, 54, 55, 56, 57, 48, 49, 50, 51, 52, 53, 54, 55, 56, 57, 48, 49, 50, 51, 52, 53, 54, 55, 56, 57, 48, 49, 50, 51, 52, 53, 54, 55, 56, 57, 48, 49, 50, 51, 52, 53, 54, 55, 56, 57, 48, 49, 50, 51, 52, 53, 54, 55, 56, 57, 48, 49, 50, 51, 52, 53, 54, 55, 56, 57, 48, 49, 50, 51, 52, 53, 54, 55, 56, 57, 48, 49, 50, 51, 52, 53, 54, 55, 56, 57] : List Int32).getD j 0))) := by decide +kernel
theorem gt_3 {b : Nat} {s : State} (hg : (Jvm.Cond.and given_1 narrow_1).before #[Value.ref b] s = true) {A : Nat → Prop} (hA : ∀ a : Nat, a < s.heap.size → ¬ A a) : ∃ t : Nat, (Term.static "java/lang/Integer" "DigitOnes" "[B").eval #[Value.ref b] s none [] s = some (.ref t) ∧ va_T .byte t 100 (fun j => .int (([48, 49, 50, 51, 52, 53, 54, 55, 56, 57, 48, 49, 50, 51, 52, 53, 54, 55, 56, 57, 48, 49, 50, 51, 52, 53, 54, 55, 56, 57, 48, 49, 50, 51, 52, 53, 54, 55, 56, 57, 48, 49, 50, 51, 52, 53, 54, 55, 56, 57, 48, 49, 50, 51, 52, 53, 54, 55, 56, 57, 48, 49, 50, 51, 52, 53, 54, 55, 56, 57, 48, 49, 50, 51, 52, 53, 54, 55, 56, 57, 48, 49, 50, 51, 52, 53, 54, 55, 56, 57, 48, 49, 50, 51, 52, 53, 54, 55, 56, 57] : List Int32).getD j 0)) A s s.heap :=
  va_Tof (by decide) (gv hg 46 (w := Cond.arrayOf (.static "java/lang/Integer" "DigitOnes" "[B") .byte) (by decide +kernel)) (va_eqt (z := Int32.ofNat 100) (gv hg 47 (by decide +kernel))) (fun j hj => va_eqt (gv hg (48 + j) (ge_3 j hj))) hA
def strTm (i : Nat) : Term := Term.string (if i < 4 then "HonestScales$Parser" else "HonestScalesLaw") (([32, 86, 107, 132, 57, 66, 68, 96] : List Nat).getD i 0)
def sP0 (i : Nat) : Nat := ([308, 448, 459, 472, 497, 507, 525, 537] : List Nat).getD i 0
def sN0 (i j : Nat) : Nat := (([[0, 458, 470, 480, 502, 519, 530, 546], [458, 0, 471, 481, 503, 520, 531, 547], [470, 471, 0, 482, 504, 521, 532, 548], [480, 481, 482, 0, 505, 522, 533, 549], [502, 503, 504, 505, 0, 524, 535, 551], [519, 520, 521, 522, 524, 0, 536, 552], [530, 531, 532, 533, 535, 536, 0, 553], [546, 547, 548, 549, 551, 552, 553, 0]] : List (List Nat)).getD i []).getD j 0
theorem gs_0 : ∀ i, i < 8 → strL.getD i 0 < 2 ^ 31 := by decide +kernel
theorem gs_1 : ∀ i, i < 8 → gvL[sP0 i]? = some (Cond.exactly (strTm i) "java/lang/String") := by decide +kernel
theorem gs_2 : ∀ i, i < 8 → gvL[sP0 i + 1]? = some (Cond.eq (.field (strTm i) "java/lang/String" "coder" "B") (.int 0)) := by decide +kernel
theorem gs_3 : ∀ i, i < 8 → gvL[sP0 i + 2]? = some (Cond.arrayOf (.field (strTm i) "java/lang/String" "value" "[B") .byte) := by decide +kernel
theorem gs_4 : ∀ i, i < 8 → gvL[sP0 i + 3]? = some (Cond.eq (.length (.field (strTm i) "java/lang/String" "value" "[B")) (.int (Int32.ofNat (strL.getD i 0)))) := by decide +kernel
theorem gs_5 : ∀ i, i < 8 → ∀ j, j < strL.getD i 0 → gvL[sP0 i + 4 + j]? = some (Cond.eq (.elem (.field (strTm i) "java/lang/String" "value" "[B") (.int (Int32.ofNat j))) (.int ((strB.getD i []).getD j 0))) := by decide +kernel
theorem gs_6 : ∀ i, i < 8 → ∀ j, j < 8 → i ≠ j → gvL[sN0 i j]? = some (Cond.not (Cond.eq (strTm i) (strTm j))) ∨ gvL[sN0 i j]? = some (Cond.not (Cond.eq (strTm j) (strTm i))) := by decide +kernel
theorem gs_10 {b : Nat} {s : State} (hg : (Jvm.Cond.and given_1 narrow_1).before #[Value.ref b] s = true) {A : Nat → Prop} (hA : ∀ a : Nat, a < s.heap.size → ¬ A a) : ∃ adK adV : Nat → Nat, vk_S 8 strL strB adK adV A s s.heap ∧ ∀ i : Nat, i < 8 → (strTm i).eval #[Value.ref b] s none [] s = some (.ref (adK i)) :=
  vk_Sof gs_0 (fun i hi => gv hg _ (gs_1 i hi)) (fun i hi => gv hg _ (gs_2 i hi)) (fun i hi => gv hg _ (gs_3 i hi)) (fun i hi => gv hg _ (gs_4 i hi)) (fun i hi j hj => gv hg _ (gs_5 i hi j hj)) (fun i j hi hj n => (gs_6 i hi j hj n).imp (fun z => gv hg _ z) (fun z => gv hg _ z)) hA
theorem gs_a {b : Nat} {s : State} {t : Term} (h : (Cond.exactly t "java/lang/String").before #[Value.ref b] s = true) : ∃ a : Nat, t.eval #[Value.ref b] s none [] s = some (.ref a) := by
  obtain ⟨a, c, cA, kA, q1, -⟩ := Cond.exactly_spec (args := #[Value.ref b]) (first := s) (o := none) (s := s) (idx := []) (t := t) (cls := "java/lang/String") h
  exact ⟨a, q1⟩
theorem cst_start {l : Launch} {dC : Nat → ClassId} {dI : Nat → Nat → Nat} {b L : Nat} {xs : Nat → Int32} {s : State} (hts : ∀ w ∈ lw_tbl, w.before #[Value.ref b] s = true) (hg : (Jvm.Cond.and given_1 narrow_1).before #[Value.ref b] s = true) (hX : va_X b L xs s s.heap) (hbl : b < s.heap.size) : ∃ eS eV : Nat → Nat, Cst (l, (dC, dI), s.heap.size, eS, eV, b, L, xs) s s.heap := by
  have hA : ∀ a : Nat, a < s.heap.size → ¬ (fun q : Nat => s.heap.size ≤ q) a := fun a h => Nat.not_le.mpr h
  obtain ⟨adK, adV, hS, hK⟩ := gs_10 hg hA
  obtain ⟨a49, h49⟩ := gs_a (t := .string "HonestScalesLaw" 49) (gv hg 483 (by decide +kernel))
  have h86 := Cond.eq_refs (a := Term.string "HonestScales$Parser" 86) (gv hg 494 (w := Cond.eq (.string "HonestScales$Parser" 86) (.string "HonestScalesLaw" 49)) (by decide +kernel)) h49 rfl
  have h1K : (Term.string "HonestScales$Parser" 86).eval #[Value.ref b] s none [] s = some (.ref (adK 1)) := hK 1 (by decide)
  obtain rfl : a49 = adK 1 := by
    have z := h86.symm.trans h1K
    injection z with z
    injection z
  obtain ⟨a10, h10⟩ := gs_a (t := .string "HonestScales" 61) (gv hg 591 (by decide +kernel))
  obtain ⟨a13, h13⟩ := gs_a (t := .string "HonestScales" 185) (gv hg 745 (by decide +kernel))
  obtain ⟨a14, h14⟩ := gs_a (t := .string "HonestScales" 305) (gv hg 665 (by decide +kernel))
  obtain ⟨a15, h15⟩ := gs_a (t := .string "HonestScales" 309) (gv hg 554 (by decide +kernel))
  obtain ⟨a16, h16⟩ := gs_a (t := .string "HonestScales" 312) (gv hg 693 (by decide +kernel))
  obtain ⟨a17, h17⟩ := gs_a (t := .string "HonestScales" 314) (gv hg 629 (by decide +kernel))
  obtain ⟨t0, u0, v0⟩ := gt_0 hg hA
  obtain ⟨t1, u1, v1⟩ := gt_1 hg hA
  obtain ⟨t2, u2, v2⟩ := gt_2 hg hA
  obtain ⟨t3, u3, v3⟩ := gt_3 hg hA
  refine ⟨fun k => (if k < 8 then adK k else if k < 100 then [a10, a10, a10, a13, a14, a15, a16, a17].getD (k - 10) 0 else [t0, t1, t2, t3].getD (k - 100) 0), adV, fun w hw => ?_, va_AO.of (hts _ (tq_2 (List.mem_of_getElem? (i := 17) rfl))), va_AO.of (hts _ (tq_1 (List.mem_of_getElem? (i := 119) rfl))), ?_, ⟨fun i hi => ?_, fun i j hi hj e => ?_⟩, ?_, ?_, vx_Zqof (hts _ (tq_4 (List.mem_of_getElem? (i := 65) rfl))) (hts _ (tq_1 (List.mem_of_getElem? (i := 22) rfl))) (gv hg 251 (by decide +kernel)) hA, vx_Zqof (hts _ (tq_4 (List.mem_of_getElem? (i := 67) rfl))) (hts _ (tq_1 (List.mem_of_getElem? (i := 22) rfl))) (gv hg 252 (by decide +kernel)) hA, va_Zqof (hts _ (tq_2 (List.mem_of_getElem? (i := 94) rfl))) (hts _ (tq_1 (List.mem_of_getElem? (i := 13) rfl))) (gv hg 5 (by decide +kernel)) hA, hX, Nat.not_le.mpr hbl, (fun _ z => absurd z List.not_mem_nil), va_AO.of (hts _ (tq_3 (List.mem_of_getElem? (i := 24) rfl)))⟩
  · obtain ⟨h1, h2⟩ := List.mem_filter.mp hw
    refine va_Nw.of ?_ (hts w h1)
    cases w <;> first | rfl | (simp [nWord] at h2)
  · exact List.forall_mem_cons.mpr ⟨(show vk_R "HonestScales$Parser" 32 _ _ _ from vk_R.of (hts (Cond.stringRef "HonestScales$Parser" 32 "bureau 5 10 4 10 20 1 7; weights 100 500 2000; shop 100 500 50 7 250 10 20 3; shop 50 530 50 5 1000 4 0 0; shop 200 480 60 4 100 30 0 5;") (tq_2 (List.mem_of_getElem? (i := 65) rfl))) (hK 0 (by decide))),
    List.forall_mem_cons.mpr ⟨(show vk_R "HonestScales$Parser" 86 _ _ _ from vk_R.of (hts (Cond.stringRef "HonestScales$Parser" 86 "bureau") (tq_2 (List.mem_of_getElem? (i := 150) rfl))) (hK 1 (by decide))),
    List.forall_mem_cons.mpr ⟨(show vk_R "HonestScales$Parser" 107 _ _ _ from vk_R.of (hts (Cond.stringRef "HonestScales$Parser" 107 "weights") (tq_2 (List.mem_of_getElem? (i := 190) rfl))) (hK 2 (by decide))),
    List.forall_mem_cons.mpr ⟨(show vk_R "HonestScales$Parser" 132 _ _ _ from vk_R.of (hts (Cond.stringRef "HonestScales$Parser" 132 "shop") (tq_2 (List.mem_of_getElem? (i := 207) rfl))) (hK 3 (by decide))),
    List.forall_mem_cons.mpr ⟨(show vk_R "HonestScalesLaw" 49 _ _ _ from vk_R.of (hts (Cond.stringRef "HonestScalesLaw" 49 "bureau") (tq_3 (List.mem_of_getElem? (i := 25) rfl))) (h49)),
    List.forall_mem_cons.mpr ⟨(show vk_R "HonestScalesLaw" 57 _ _ _ from vk_R.of (hts (Cond.stringRef "HonestScalesLaw" 57 " ") (tq_3 (List.mem_of_getElem? (i := 129) rfl))) (hK 4 (by decide))),
    List.forall_mem_cons.mpr ⟨(show vk_R "HonestScalesLaw" 66 _ _ _ from vk_R.of (hts (Cond.stringRef "HonestScalesLaw" 66 ";weights") (tq_3 (List.mem_of_getElem? (i := 212) rfl))) (hK 5 (by decide))),
    List.forall_mem_cons.mpr ⟨(show vk_R "HonestScalesLaw" 68 _ _ _ from vk_R.of (hts (Cond.stringRef "HonestScalesLaw" 68 ";") (tq_3 (List.mem_of_getElem? (i := 213) rfl))) (hK 6 (by decide))),
    List.forall_mem_cons.mpr ⟨(show vk_R "HonestScalesLaw" 96 _ _ _ from vk_R.of (hts (Cond.stringRef "HonestScalesLaw" 96 "shop ") (tq_4 (List.mem_of_getElem? (i := 27) rfl))) (hK 7 (by decide))),
    List.forall_mem_cons.mpr ⟨(show vk_R "HonestScales$Parser" 132 _ _ _ from vk_R.of (hts (Cond.stringRef "HonestScales$Parser" 132 "shop") (tq_2 (List.mem_of_getElem? (i := 207) rfl))) (hK 3 (by decide))),
    List.forall_mem_cons.mpr ⟨(show vk_R "HonestScales" 61 _ _ _ from vk_R.of (hts (Cond.stringRef "HonestScales" 61 "the input buffer is full") (tq_4 (List.mem_of_getElem? (i := 120) rfl))) (h10)),
    List.forall_mem_cons.mpr ⟨(show vk_R "HonestScales" 61 _ _ _ from vk_R.of (hts (Cond.stringRef "HonestScales" 61 "the input buffer is full") (tq_4 (List.mem_of_getElem? (i := 120) rfl))) (h10)),
    List.forall_mem_cons.mpr ⟨(show vk_R "HonestScales" 61 _ _ _ from vk_R.of (hts (Cond.stringRef "HonestScales" 61 "the input buffer is full") (tq_4 (List.mem_of_getElem? (i := 120) rfl))) (h10)),
    List.forall_mem_cons.mpr ⟨(show vk_R "HonestScales" 185 _ _ _ from vk_R.of (hts (Cond.stringRef "HonestScales" 185 "no such test weight") (tq_6 (List.mem_of_getElem? (i := 34) rfl))) (h13)),
    List.forall_mem_cons.mpr ⟨(show vk_R "HonestScales" 305 _ _ _ from vk_R.of (hts (Cond.stringRef "HonestScales" 305 "no such shop") (tq_4 (List.mem_of_getElem? (i := 213) rfl))) (h14)),
    List.forall_mem_cons.mpr ⟨(show vk_R "HonestScales" 309 _ _ _ from vk_R.of (hts (Cond.stringRef "HonestScales" 309 "a number is out of range") (tq_4 (List.mem_of_getElem? (i := 79) rfl))) (h15)),
    List.forall_mem_cons.mpr ⟨(show vk_R "HonestScales" 312 _ _ _ from vk_R.of (hts (Cond.stringRef "HonestScales" 312 "the shop is not in a state for this") (tq_5 (List.mem_of_getElem? (i := 30) rfl))) (h16)),
    List.forall_mem_cons.mpr ⟨(show vk_R "HonestScales" 314 _ _ _ from vk_R.of (hts (Cond.stringRef "HonestScales" 314 "the text has an error") (tq_4 (List.mem_of_getElem? (i := 139) rfl))) (h17)),
    fun _ z => absurd z List.not_mem_nil⟩⟩⟩⟩⟩⟩⟩⟩⟩⟩⟩⟩⟩⟩⟩⟩⟩⟩
  · obtain ⟨q1, q2, q3, q4⟩ := hS.1 i hi
    have e : (if i < 8 then adK i else if i < 100 then [a10, a10, a10, a13, a14, a15, a16, a17].getD (i - 10) 0 else [t0, t1, t2, t3].getD (i - 100) 0) = adK i := if_pos hi
    show va_O _ (if i < 8 then adK i else if i < 100 then [a10, a10, a10, a13, a14, a15, a16, a17].getD (i - 10) 0 else [t0, t1, t2, t3].getD (i - 100) 0) _ _ _ ∧ va_OF _ _ _ _ (if i < 8 then adK i else if i < 100 then [a10, a10, a10, a13, a14, a15, a16, a17].getD (i - 10) 0 else [t0, t1, t2, t3].getD (i - 100) 0) _ _ _ ∧ va_OF _ _ _ _ (if i < 8 then adK i else if i < 100 then [a10, a10, a10, a13, a14, a15, a16, a17].getD (i - 10) 0 else [t0, t1, t2, t3].getD (i - 100) 0) _ _ _ ∧ _
    rw [e]
    exact ⟨q1, q2, q3, q4⟩
  · have e : (if i < 8 then adK i else if i < 100 then [a10, a10, a10, a13, a14, a15, a16, a17].getD (i - 10) 0 else [t0, t1, t2, t3].getD (i - 100) 0) = (if j < 8 then adK j else if j < 100 then [a10, a10, a10, a13, a14, a15, a16, a17].getD (j - 10) 0 else [t0, t1, t2, t3].getD (j - 100) 0) := e
    rw [if_pos hi, if_pos hj] at e
    exact hS.2 i j hi hj e
  · exact List.forall_mem_cons.mpr ⟨(show va_Z "HonestScales" "BUREAU_RANGES" "[I" (.ref t0) _ s s.heap from va_Zref (hts _ (tq_2 (List.mem_of_getElem? (i := 165) rfl))) (hts _ (tq_1 (List.mem_of_getElem? (i := 1) rfl))) u0 hA),
    List.forall_mem_cons.mpr ⟨(show va_Z "HonestScales" "SHOP_RANGES" "[I" (.ref t1) _ s s.heap from va_Zref (hts _ (tq_2 (List.mem_of_getElem? (i := 209) rfl))) (hts _ (tq_1 (List.mem_of_getElem? (i := 1) rfl))) u1 hA),
    List.forall_mem_cons.mpr ⟨(show va_Z "java/lang/Integer" "DigitTens" "[B" (.ref t2) _ s s.heap from va_Zref (hts _ (tq_3 (List.mem_of_getElem? (i := 146) rfl))) (hts _ (tq_1 (List.mem_of_getElem? (i := 20) rfl))) u2 hA),
    List.forall_mem_cons.mpr ⟨(show va_Z "java/lang/Integer" "DigitOnes" "[B" (.ref t3) _ s s.heap from va_Zref (hts _ (tq_3 (List.mem_of_getElem? (i := 144) rfl))) (hts _ (tq_1 (List.mem_of_getElem? (i := 20) rfl))) u3 hA),
    List.forall_mem_cons.mpr ⟨(show va_Z "java/lang/String" "COMPACT_STRINGS" "Z" (.int 1) _ s s.heap from va_Zof (hts _ (tq_2 (List.mem_of_getElem? (i := 38) rfl))) (hts _ (tq_1 (List.mem_of_getElem? (i := 10) rfl))) (va_eqi (gv hg 4 (by decide +kernel))) hA),
    fun _ z => absurd z List.not_mem_nil⟩⟩⟩⟩⟩
  · exact List.forall_mem_cons.mpr ⟨v0, List.forall_mem_cons.mpr ⟨v1, List.forall_mem_cons.mpr ⟨v2, List.forall_mem_cons.mpr ⟨v3, fun _ z => absurd z List.not_mem_nil⟩⟩⟩⟩
theorem selP_of {s : State} {args : Array Value} {y : MethodName} (hy : y.cls = "java/lang/AbstractStringBuilder") (h0 : (Cond.selects "java/lang/StringBuilder" ({ cls := "java/lang/AbstractStringBuilder", name := "isLatin1", desc := "()Z" } : Jvm.MethodName) ({ cls := "java/lang/AbstractStringBuilder", name := "isLatin1", desc := "()Z" } : Jvm.MethodName)).before args s = true) (h1 : (Cond.instanceMethod y).before args s = true) (h2 : (Cond.privateMethod y).before args s = true) (h3 : (Cond.sameMethod y.cls y.cls y.name y.desc).before args s = true) : (selP y).before args s = true := by
  obtain ⟨cS, r1, m1, f1, -, q1, -, k1, hk1, hi1⟩ := Cond.selects_spec h0
  obtain ⟨mk, methM, n1, n2, n3, n4⟩ := Cond.instanceMethod_spec h1
  have hfA := findClass_of_methodNamed q1
  have hfB := findClass_of_methodNamed n1
  have hfB' := hfB
  rw [hy] at hfB'
  have ecl : m1.cls = mk.cls := Option.some.inj (hfA.symm.trans hfB')
  have hp := Cond.privateMethod_at h2 mk methM n1 n2
  cases hf : s.methodFound? y.cls y.name y.desc with
  | none => simp [Cond.before, Cond.holds, Cond.value, hfB, hf] at h3
  | some r =>
    have e := (Cond.sameMethod_spec hfB hf h3).1
    have er : r = mk := Option.some.inj (e.symm.trans n1)
    subst er
    rw [ecl] at hk1
    unfold selP
    simp [Cond.before, Cond.holds, Cond.value, f1, hf, n1, selectMethod_private n2 hp, hk1, hi1]
theorem law_tG {b : Nat} {s : State} (hts : ∀ w ∈ lw_tbl, w.before #[Value.ref b] s = true) : ∀ w ∈ tG, w.before #[Value.ref b] s = true := by
  have h0 := hts (Cond.selects "java/lang/StringBuilder" ({ cls := "java/lang/AbstractStringBuilder", name := "isLatin1", desc := "()Z" } : Jvm.MethodName) ({ cls := "java/lang/AbstractStringBuilder", name := "isLatin1", desc := "()Z" } : Jvm.MethodName)) (tq_3 (List.mem_of_getElem? (i := 77) rfl))
  have hs : ∀ w ∈ yPs.map selP, w.before #[Value.ref b] s = true := List.forall_mem_cons.mpr ⟨selP_of (y := yE) rfl h0 (hts _ (tq_3 (List.mem_of_getElem? (i := 41) rfl))) (hts _ (tq_3 (List.mem_of_getElem? (i := 40) rfl))) (hts _ (tq_6 (List.mem_of_getElem? (i := 90) rfl))),
    List.forall_mem_cons.mpr ⟨selP_of (y := yN) rfl h0 (hts _ (tq_3 (List.mem_of_getElem? (i := 45) rfl))) (hts _ (tq_3 (List.mem_of_getElem? (i := 44) rfl))) (hts _ (tq_6 (List.mem_of_getElem? (i := 91) rfl))),
    List.forall_mem_cons.mpr ⟨selP_of (y := yP) rfl h0 (hts _ (tq_3 (List.mem_of_getElem? (i := 97) rfl))) (hts _ (tq_3 (List.mem_of_getElem? (i := 96) rfl))) (hts _ (tq_6 (List.mem_of_getElem? (i := 92) rfl))),
    List.forall_mem_cons.mpr ⟨selP_of (y := yF) rfl h0 (hts _ (tq_3 (List.mem_of_getElem? (i := 101) rfl))) (hts _ (tq_3 (List.mem_of_getElem? (i := 100) rfl))) (hts _ (tq_6 (List.mem_of_getElem? (i := 93) rfl))),
    fun _ z => absurd z List.not_mem_nil⟩⟩⟩⟩
  intro w hw
  rcases List.mem_append.mp (List.mem_filter.mp hw).1 with h | h
  · exact hs w h
  · exact hts w h
