/-! Contracts that answer one value and leave one heap; reading a reference; a whole row at once -/
def rA (h : Hp) (a k : Nat) : Nat := (hR h a k).getD 0
def rOk (h : Hp) (a k : Nat) : Prop := (hR h a k).isSome = true
theorem rA_some {h : Hp} {a k : Nat} (o : rOk h a k) : hR h a k = some (rA h a k) := by
  unfold rOk at o
  unfold rA
  cases hx : hR h a k with
  | none => rw [hx] at o; cases o
  | some y => rfl
/-- the row of a cell's ints, replaced as a whole -/
def sA (h : Hp) (a : Nat) (f : Nat → Int32) : Hp := (u1 h.1 a f, h.2)
theorem hI_sA (h : Hp) (a : Nat) (f : Nat → Int32) (q : Nat) : hI (sA h a f) q = if q = a then f else hI h q := rfl
theorem hI_sA_same (h : Hp) (a : Nat) (f : Nat → Int32) : hI (sA h a f) a = f := by rw [hI_sA, if_pos rfl]
theorem hI_sA_ne {h : Hp} {a q : Nat} {f : Nat → Int32} (hq : q ≠ a) : hI (sA h a f) q = hI h q := by rw [hI_sA, if_neg hq]
theorem sI_sA (h : Hp) (a k : Nat) (v : Int32) : sI h a k v = sA h a (u1 (hI h a) k v) := by
  unfold sI sA
  refine Prod.ext ?_ rfl
  funext q j
  show (if q = a ∧ j = k then v else h.1 q j) = (if q = a then u1 (hI h a) k v else h.1 q) j
  by_cases hq : q = a
  · subst hq
    simp [u1, hI]
  · simp [hq]
theorem sA_sA (h : Hp) (a : Nat) (f g : Nat → Int32) : sA (sA h a f) a g = sA h a g := by
  unfold sA
  refine Prod.ext ?_ rfl
  funext q
  show (if q = a then g else (if q = a then f else h.1 q)) = if q = a then g else h.1 q
  by_cases hq : q = a <;> simp [hq]
theorem sA_self (h : Hp) (a : Nat) : sA h a (hI h a) = h := by
  unfold sA
  refine Prod.ext ?_ rfl
  funext q
  show (if q = a then hI h a else h.1 q) = h.1 q
  by_cases hq : q = a
  · subst hq; simp [hI]
  · simp [hq]
theorem sA_comm {h : Hp} {a b : Nat} {f g : Nat → Int32} (hab : a ≠ b) : sA (sA h a f) b g = sA (sA h b g) a f := by
  unfold sA
  refine Prod.ext ?_ rfl
  funext q
  show (if q = b then g else (if q = a then f else h.1 q)) = (if q = a then f else (if q = b then g else h.1 q))
  by_cases hq : q = b
  · subst hq
    rw [if_pos rfl, if_pos rfl, if_neg (fun e => hab e.symm)]
  · simp [hq]
theorem hR_sA (h : Hp) (a : Nat) (f : Nat → Int32) : hR (sA h a f) = hR h := rfl
theorem hK_sA (h : Hp) (a : Nat) (f : Nat → Int32) : hK (sA h a f) = hK h := rfl
theorem hL_sA (h : Hp) (a : Nat) (f : Nat → Int32) : hL (sA h a f) = hL h := rfl
theorem rA_sA (h : Hp) (a : Nat) (f : Nat → Int32) (q k : Nat) : rA (sA h a f) q k = rA h q k := rfl
theorem u1_same {α : Type} (f : Nat → α) (a : Nat) (v : α) : u1 f a v a = v := by unfold u1; rw [if_pos rfl]
theorem u1_ne {α : Type} {f : Nat → α} {a q : Nat} {v : α} (hq : q ≠ a) : u1 f a v q = f q := by unfold u1; rw [if_neg hq]
theorem u1_at {α : Type} (f : Nat → α) (a : Nat) (v : α) (q : Nat) : u1 f a v q = if q = a then v else f q := rfl
abbrev CR (E : En) (Z : Mt) (av : List Value) (h : Hp) (r : Option Value) (h9 : Hp) : Prop := CT E Z av h 0 0 (fun v h' => v = r ∧ h' = h9) noX
section
variable {E : En} {M Z : Mt} {pc : Nat} {lv : List (Nat × Value)} {st st0 As : List Value} {h h9 : Hp} {k n : Nat} {P : Option Value → Hp → Prop} {X : String → Hp → Prop} {idx na ci b : Nat} {q : vw_C} {x : Value}
theorem g_cV1 (hd : decode (mC M) pc = .ok (.invokevirtual idx, 3)) (hh : mHh M = []) (hz : MV Z na) (hs : ST M idx Z) (hq : cls[ci]? = some q) (hq1 : q.1 = (mY Z).cls) (hci : ci < 19) (hst : st0 = As.reverse ++ .ref b :: st) (hna : As.length = na) (hcat : (st.map fun v => v.category).sum ≤ 8) (hb : hK h b = ci + 1)
    (hct : CR E Z (.ref b :: As) h (some x) h9) (kk : G E M (pc + 3) lv (x :: st) h9 k n P X) : G E M pc lv st0 h k n P X :=
  g_callV (kz := 0) (nz := 0) hd hh hz hs hq hq1 hci hb hst hna hcat hct (fun _ _ z => z.elim) (fun v h1 hv => by obtain ⟨rfl, rfl⟩ := hv; exact kk)
theorem g_cV0 (hd : decode (mC M) pc = .ok (.invokevirtual idx, 3)) (hh : mHh M = []) (hz : MV Z na) (hs : ST M idx Z) (hq : cls[ci]? = some q) (hq1 : q.1 = (mY Z).cls) (hci : ci < 19) (hst : st0 = As.reverse ++ .ref b :: st) (hna : As.length = na) (hcat : (st.map fun v => v.category).sum ≤ 8) (hb : hK h b = ci + 1)
    (hct : CR E Z (.ref b :: As) h none h9) (kk : G E M (pc + 3) lv st h9 k n P X) : G E M pc lv st0 h k n P X :=
  g_callV (kz := 0) (nz := 0) hd hh hz hs hq hq1 hci hb hst hna hcat hct (fun _ _ z => z.elim) (fun v h1 hv => by obtain ⟨rfl, rfl⟩ := hv; exact kk)
theorem g_cS1 (hd : decode (mC M) pc = .ok (.invokestatic idx, 3)) (hh : mHh M = []) (hz : MS Z na) (hs : ST M idx Z) (hst : st0 = As.reverse ++ st) (hna : As.length = na) (hcat : (st.map fun v => v.category).sum ≤ 8)
    (hct : CR E Z As h (some x) h9) (kk : G E M (pc + 3) lv (x :: st) h9 k n P X) : G E M pc lv st0 h k n P X :=
  g_callS (kz := 0) (nz := 0) hd hh hz hs hst hna hcat hct (fun _ _ z => z.elim) (fun v h1 hv => by obtain ⟨rfl, rfl⟩ := hv; exact kk)
theorem g_getA {a f : Nat} (hr : cRf ci f = true) (hd : decode (mC M) pc = .ok (.getfield idx, 3)) (hf : FLk (mY M).cls idx ci f) (hci : ci < 19) (hk : hK h a = ci + 1) (ho : rOk h a f)
    (kk : G E M (pc + 3) lv (.ref (rA h a f) :: st) h k n P X) : G E M pc lv (.ref a :: st) h k n P X := g_getR hr (rA_some ho) hd hf hci hk kk
theorem g_aaloadA {a kd : Nat} {i : Int32} (hd : decode (mC M) pc = .ok (.aaload, 1)) (hkd : kd = 25 ∨ kd = 26) (hk : hK h a = kd) (hin : vp_in i (hL h a)) (ho : rOk h a i.toNatClampNeg)
    (kk : G E M (pc + 1) lv (.ref (rA h a i.toNatClampNeg) :: st) h k n P X) : G E M pc lv (.int i :: .ref a :: st) h k n P X := g_aaload hd hkd hk hin (rA_some ho) kk
/-- Math.max, min, abs -/
def MM (M : Mt) (idx : Nat) (y : MethodName) (cc : ByteArray) (nl : Nat) : Prop := Cond.methodLink (mY M).cls idx y ∈ tG ∧ Cond.static y ∈ tG ∧ Cond.initialized "java/lang/Math" ∈ tG ∧ Cond.code y cc nl (some .int) ∈ tG ∧ 1 ≤ mFr M ∧ 21 ≤ mLo M
theorem g_max {i j : Int32} (hd : decode (mC M) pc = .ok (.invokestatic idx, 3)) (hm : MM M idx Lib.Math.max.name Lib.Math.max.code 2) (hcat : (st.map fun v => v.category).sum ≤ 8) (kk : G E M (pc + 3) lv (.int (if i < j then j else i) :: st) h k n P X) : G E M pc lv (.int j :: .int i :: st) h k n P X := by
  intro p e R s m args below meth c H locs cells slots ls C r h1 h2 hls
  have hfr := C.2.2.2.2.2.2.2.2.2.2.2.2.1
  have hlo := C.2.2.2.2.2.2.2.2.2.2.2.2.2.1
  obtain ⟨m1, m2, m3, m4, m5, m6⟩ := hm
  exact va_mmax C.1 C.2.1 (C.2.2.1.trans hls.1.symm) C.2.2.2.1 (C.hts _ m1) (C.hts _ m2) (C.hts _ m3) (C.hts _ m4) (by omega) (by omega) (by omega) (by omega) hd (kk p e R s m args below meth c H locs cells slots ls C r h1 h2 hls)
theorem g_min {i j : Int32} (hd : decode (mC M) pc = .ok (.invokestatic idx, 3)) (hm : MM M idx Lib.Math.min.name Lib.Math.min.code 2) (hcat : (st.map fun v => v.category).sum ≤ 8) (kk : G E M (pc + 3) lv (.int (if j < i then j else i) :: st) h k n P X) : G E M pc lv (.int j :: .int i :: st) h k n P X := by
  intro p e R s m args below meth c H locs cells slots ls C r h1 h2 hls
  have hfr := C.2.2.2.2.2.2.2.2.2.2.2.2.1
  have hlo := C.2.2.2.2.2.2.2.2.2.2.2.2.2.1
  obtain ⟨m1, m2, m3, m4, m5, m6⟩ := hm
  exact va_mmin C.1 C.2.1 (C.2.2.1.trans hls.1.symm) C.2.2.2.1 (C.hts _ m1) (C.hts _ m2) (C.hts _ m3) (C.hts _ m4) (by omega) (by omega) (by omega) (by omega) hd (kk p e R s m args below meth c H locs cells slots ls C r h1 h2 hls)
theorem g_abs {i : Int32} (hd : decode (mC M) pc = .ok (.invokestatic idx, 3)) (hm : MM M idx Lib.Math.abs.name Lib.Math.abs.code 1) (hcat : (st.map fun v => v.category).sum ≤ 8) (kk : G E M (pc + 3) lv (.int (if 0 ≤ i then i else 0 - i) :: st) h k n P X) : G E M pc lv (.int i :: st) h k n P X := by
  intro p e R s m args below meth c H locs cells slots ls C r h1 h2 hls
  have hfr := C.2.2.2.2.2.2.2.2.2.2.2.2.1
  have hlo := C.2.2.2.2.2.2.2.2.2.2.2.2.2.1
  obtain ⟨m1, m2, m3, m4, m5, m6⟩ := hm
  exact va_mabs C.1 C.2.1 (C.2.2.1.trans hls.1.symm) C.2.2.2.1 (C.hts _ m1) (C.hts _ m2) (C.hts _ m3) (C.hts _ m4) (by omega) (by omega) (by omega) (by omega) hd (kk p e R s m args below meth c H locs cells slots ls C r h1 h2 hls)
end
theorem g_nameI {E : En} {M : Mt} {pc : Nat} {lv : List (Nat × Value)} {st : List Value} {h : Hp} {k n : Nat} {P : Option Value → Hp → Prop} {X : String → Hp → Prop} {x : Int32} (kk : ∀ y : Int32, y = x → G E M pc lv (.int y :: st) h k n P X) : G E M pc lv (.int x :: st) h k n P X := kk x rfl
theorem g_nameA {E : En} {M : Mt} {pc : Nat} {lv : List (Nat × Value)} {st : List Value} {h : Hp} {k n : Nat} {P : Option Value → Hp → Prop} {X : String → Hp → Prop} {x : Nat} (kk : ∀ y : Nat, y = x → G E M pc lv (.ref y :: st) h k n P X) : G E M pc lv (.ref x :: st) h k n P X := kk x rfl
