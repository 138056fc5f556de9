/-! ROWS of arrays, new cells, calls, ends -/
theorem same_new {h : Hp} {a kind len q : Nat} (hx : q ≠ a) : SameAt h (hNew h a kind len) q := by simp [SameAt, hI_new, hR_new, hJ_new, hK_new, hL_new, hx]
theorem arr_len {E : En} {U : State} {h : Hp} {H : Heap} {a kd : Nat} (r : Rel E U h H) (hk : hK h a = kd) (hkd : 20 ≤ kd) : a < H.size := by
  obtain ⟨cA, -, -, c⟩ := r.arr hk hkd
  exact (Array.getElem?_eq_some_iff.mp c).1
theorem g_iaload {E : En} {M : Mt} {pc : Nat} {lv : List (Nat × Value)} {st : List Value} {h : Hp} {k n : Nat} {P : Option Value → Hp → Prop} {X : String → Hp → Prop} {a : Nat} {i : Int32} (hd : decode (mC M) pc = .ok (.iaload, 1)) (hk : hK h a = 20) (hin : vp_in i (hL h a))
    (kk : G E M (pc + 1) lv (.int (hI h a i.toNatClampNeg) :: st) h k n P X) : G E M pc lv (.int i :: .ref a :: st) h k n P X := by
  intro p e R s m args below meth c H locs cells slots ls C r h1 h2 hl
  obtain ⟨cA, c1, c2, c3⟩ := r.arr hk (by omega)
  have c3 : H[a]? = some (arrV cA (hL h a) (fun j => .int (hI h a j))) := c3
  have hlt : i.toNatClampNeg < hL h a := Nat.not_le.mp fun q => hin (Or.inr q)
  exact W.iald (v := .int (hI h a i.toNatClampNeg)) C.1 C.2.1 c3 (c1 (hL h a) (fun j => .int (hI h a j))) (fun q => by cases q) (by show ¬ (i < 0 ∨ (arrV _ _ _).slots.size ≤ _); rw [arrV_size]; exact hin) (by show (arrV _ _ _).slots[_]? = _; rw [arrV_read _ _ hlt]) rfl rfl hd (kk p e R s m args below meth c H locs cells slots ls C r h1 h2 hl)
theorem g_baload {E : En} {M : Mt} {pc : Nat} {lv : List (Nat × Value)} {st : List Value} {h : Hp} {k n : Nat} {P : Option Value → Hp → Prop} {X : String → Hp → Prop} {a : Nat} {i : Int32} (hd : decode (mC M) pc = .ok (.baload, 1)) (hk : hK h a = 21) (hin : vp_in i (hL h a))
    (kk : G E M (pc + 1) lv (.int (hI h a i.toNatClampNeg) :: st) h k n P X) : G E M pc lv (.int i :: .ref a :: st) h k n P X := by
  intro p e R s m args below meth c H locs cells slots ls C r h1 h2 hl
  obtain ⟨cA, c1, c2, c3⟩ := r.arr hk (by omega)
  have c3 : H[a]? = some (arrV cA (hL h a) (fun j => .int (hI h a j))) := c3
  have hlt : i.toNatClampNeg < hL h a := Nat.not_le.mp fun q => hin (Or.inr q)
  exact W.bald (v := .int (hI h a i.toNatClampNeg)) C.1 C.2.1 c3 (c1 (hL h a) (fun j => .int (hI h a j))) (fun q => by cases q) (by show ¬ (i < 0 ∨ (arrV _ _ _).slots.size ≤ _); rw [arrV_size]; exact hin) (by show (arrV _ _ _).slots[_]? = _; rw [arrV_read _ _ hlt]) rfl rfl hd (kk p e R s m args below meth c H locs cells slots ls C r h1 h2 hl)
theorem g_zaload {E : En} {M : Mt} {pc : Nat} {lv : List (Nat × Value)} {st : List Value} {h : Hp} {k n : Nat} {P : Option Value → Hp → Prop} {X : String → Hp → Prop} {a : Nat} {i : Int32} (hd : decode (mC M) pc = .ok (.baload, 1)) (hk : hK h a = 22) (hin : vp_in i (hL h a))
    (kk : G E M (pc + 1) lv (.int (hI h a i.toNatClampNeg) :: st) h k n P X) : G E M pc lv (.int i :: .ref a :: st) h k n P X := by
  intro p e R s m args below meth c H locs cells slots ls C r h1 h2 hl
  obtain ⟨cA, c1, c2, c3⟩ := r.arr hk (by omega)
  have c3 : H[a]? = some (arrV cA (hL h a) (fun j => .int (hI h a j))) := c3
  have hlt : i.toNatClampNeg < hL h a := Nat.not_le.mp fun q => hin (Or.inr q)
  exact W.zald (v := .int (hI h a i.toNatClampNeg)) C.1 C.2.1 c3 (c1 (hL h a) (fun j => .int (hI h a j))) (fun q => by cases q) (by show ¬ (i < 0 ∨ (arrV _ _ _).slots.size ≤ _); rw [arrV_size]; exact hin) (by show (arrV _ _ _).slots[_]? = _; rw [arrV_read _ _ hlt]) rfl rfl hd (kk p e R s m args below meth c H locs cells slots ls C r h1 h2 hl)
theorem g_caload {E : En} {M : Mt} {pc : Nat} {lv : List (Nat × Value)} {st : List Value} {h : Hp} {k n : Nat} {P : Option Value → Hp → Prop} {X : String → Hp → Prop} {a : Nat} {i : Int32} (hd : decode (mC M) pc = .ok (.caload, 1)) (hk : hK h a = 23) (hin : vp_in i (hL h a))
    (kk : G E M (pc + 1) lv (.int (hI h a i.toNatClampNeg) :: st) h k n P X) : G E M pc lv (.int i :: .ref a :: st) h k n P X := by
  intro p e R s m args below meth c H locs cells slots ls C r h1 h2 hl
  obtain ⟨cA, c1, c2, c3⟩ := r.arr hk (by omega)
  have c3 : H[a]? = some (arrV cA (hL h a) (fun j => .int (hI h a j))) := c3
  have hlt : i.toNatClampNeg < hL h a := Nat.not_le.mp fun q => hin (Or.inr q)
  exact W.cald (v := .int (hI h a i.toNatClampNeg)) C.1 C.2.1 c3 (c1 (hL h a) (fun j => .int (hI h a j))) (fun q => by cases q) (by show ¬ (i < 0 ∨ (arrV _ _ _).slots.size ≤ _); rw [arrV_size]; exact hin) (by show (arrV _ _ _).slots[_]? = _; rw [arrV_read _ _ hlt]) rfl rfl hd (kk p e R s m args below meth c H locs cells slots ls C r h1 h2 hl)
theorem g_laload {E : En} {M : Mt} {pc : Nat} {lv : List (Nat × Value)} {st : List Value} {h : Hp} {k n : Nat} {P : Option Value → Hp → Prop} {X : String → Hp → Prop} {a : Nat} {i : Int32} (hd : decode (mC M) pc = .ok (.laload, 1)) (hk : hK h a = 24) (hin : vp_in i (hL h a))
    (kk : G E M (pc + 1) lv (.long (hJ h a i.toNatClampNeg) :: st) h k n P X) : G E M pc lv (.int i :: .ref a :: st) h k n P X := by
  intro p e R s m args below meth c H locs cells slots ls C r h1 h2 hl
  obtain ⟨cA, c1, c2, c3⟩ := r.arr hk (by omega)
  have c3 : H[a]? = some (arrV cA (hL h a) (fun j => .long (hJ h a j))) := c3
  have hlt : i.toNatClampNeg < hL h a := Nat.not_le.mp fun q => hin (Or.inr q)
  exact W.lald (v := .long (hJ h a i.toNatClampNeg)) C.1 C.2.1 c3 (c1 (hL h a) (fun j => .long (hJ h a j))) (fun q => by cases q) (by show ¬ (i < 0 ∨ (arrV _ _ _).slots.size ≤ _); rw [arrV_size]; exact hin) (by show (arrV _ _ _).slots[_]? = _; rw [arrV_read _ _ hlt]) rfl rfl hd (kk p e R s m args below meth c H locs cells slots ls C r h1 h2 hl)
/-- the arrays of references: of bureaus (25), of shops (26) -/
theorem aTy_ref {kd : Nat} (h : kd = 25 ∨ kd = 26) : ∃ C : String, aTy kd = .object C := by rcases h with rfl | rfl <;> exact ⟨_, rfl⟩
theorem aCon_ref {h : Hp} {a kd : Nat} (hk : kd = 25 ∨ kd = 26) : aCon h a kd = (hL h a, .inr (.inr (.inr (.inr (hR h a))))) := by rcases hk with rfl | rfl <;> rfl
theorem g_aaloadV {E : En} {M : Mt} {pc : Nat} {lv : List (Nat × Value)} {st : List Value} {h : Hp} {k n : Nat} {P : Option Value → Hp → Prop} {X : String → Hp → Prop} {a kd : Nat} {i : Int32} (hd : decode (mC M) pc = .ok (.aaload, 1)) (hkd : kd = 25 ∨ kd = 26) (hk : hK h a = kd) (hin : vp_in i (hL h a))
    (kk : G E M (pc + 1) lv (va_rf (hR h a i.toNatClampNeg) :: st) h k n P X) : G E M pc lv (.int i :: .ref a :: st) h k n P X := by
  intro p e R s m args below meth c H locs cells slots ls C r h1 h2 hl
  obtain ⟨cA, c1, c2, c3⟩ := r.arr hk (by omega)
  obtain ⟨Cn, hC⟩ := aTy_ref hkd
  rw [hC] at c1
  rw [aCon_ref hkd] at c3
  have hlt : i.toNatClampNeg < hL h a := Nat.not_le.mp fun q => hin (Or.inr q)
  exact W.aald (v := va_rf (hR h a i.toNatClampNeg)) (ty := .object Cn) C.1 C.2.1 c3 (c1 (hL h a) (fun j => va_rf (hR h a j))) rfl (fun q => by cases q) (by show ¬ (i < 0 ∨ (arrV _ _ _).slots.size ≤ _); rw [arrV_size]; exact hin) (by show (arrV _ _ _).slots[_]? = _; rw [arrV_read _ _ hlt]) rfl rfl hd (kk p e R s m args below meth c H locs cells slots ls C r h1 h2 hl)
theorem g_aaload {E : En} {M : Mt} {pc : Nat} {lv : List (Nat × Value)} {st : List Value} {h : Hp} {k n : Nat} {P : Option Value → Hp → Prop} {X : String → Hp → Prop} {a b kd : Nat} {i : Int32} (hd : decode (mC M) pc = .ok (.aaload, 1)) (hkd : kd = 25 ∨ kd = 26) (hk : hK h a = kd) (hin : vp_in i (hL h a)) (hb : hR h a i.toNatClampNeg = some b)
    (kk : G E M (pc + 1) lv (.ref b :: st) h k n P X) : G E M pc lv (.int i :: .ref a :: st) h k n P X :=
  g_aaloadV hd hkd hk hin (by rw [hb]; exact kk)
theorem g_aaloadN {E : En} {M : Mt} {pc : Nat} {lv : List (Nat × Value)} {st : List Value} {h : Hp} {k n : Nat} {P : Option Value → Hp → Prop} {X : String → Hp → Prop} {a kd : Nat} {i : Int32} (hd : decode (mC M) pc = .ok (.aaload, 1)) (hkd : kd = 25 ∨ kd = 26) (hk : hK h a = kd) (hin : vp_in i (hL h a)) (hb : hR h a i.toNatClampNeg = none)
    (kk : G E M (pc + 1) lv (.null :: st) h k n P X) : G E M pc lv (.int i :: .ref a :: st) h k n P X :=
  g_aaloadV hd hkd hk hin (by rw [hb]; exact kk)
/-- the cell of an array after a store -/
theorem cellI {E : En} {U : State} {h : Hp} {H1 : Heap} {a kd j : Nat} {x : Int32} {cA : ClassId} (hk : hK h a = kd) (hkd : 20 ≤ kd) (hkd2 : kd < 24) (c1 : ArrOfT U cA (aTy kd)) (c2 : va_RA U cA (aTy kd)) (e : H1[a]? = some ((vp_cell cA (aCon h a kd)).setSlot j (.int x))) : CellAt E U (sI h a j x) a H1 := by
  refine Or.inr ⟨by show 20 ≤ hK h a; omega, cA, by show ArrOfT U cA (aTy (hK h a)); rw [hk]; exact c1, by show va_RA U cA (aTy (hK h a)); rw [hk]; exact c2, ?_⟩
  have e2 : hK (sI h a j x) a = kd := hk
  rw [e, e2]
  have a1 : aCon h a kd = (hL h a, .inl (hI h a)) := by unfold aCon; rw [if_pos hkd2]
  have a2 : aCon (sI h a j x) a kd = (hL h a, .inl (hI (sI h a j x) a)) := by unfold aCon; rw [if_pos hkd2]; rfl
  rw [a1, a2, vp_cell_i, vp_cell_i, arrV_store]
  congr 2
  funext q
  by_cases hq : q = j
  · subst hq
    simp [updV, hI_sI]
  · simp [updV, hI_sI, hq]
theorem g_iastore {E : En} {M : Mt} {pc : Nat} {lv : List (Nat × Value)} {st : List Value} {h : Hp} {k n : Nat} {P : Option Value → Hp → Prop} {X : String → Hp → Prop} {a : Nat} {i x : Int32} (hd : decode (mC M) pc = .ok (.iastore, 1)) (hk : hK h a = 20) (hin : vp_in i (hL h a))
    (kk : G E M (pc + 1) lv st (sI h a i.toNatClampNeg x) k n P X) : G E M pc lv (.int x :: .int i :: .ref a :: st) h k n P X := by
  intro p e R s m args below meth c H locs cells slots ls C r h1 h2 hl
  obtain ⟨cA, c1, c2, c3⟩ := r.arr hk (by omega)
  refine W.iast C.1 C.2.1 c3 (c1 (hL h a) (fun j => .int (hI h a j))) (fun q => by cases q) (by show ¬ (i < 0 ∨ (arrV _ _ _).slots.size ≤ _); rw [arrV_size]; exact hin) rfl rfl hd fun H1 e1 z oq => ?_
  exact kk p e R s m args below meth c H1 _ cells slots ls (C.to (C.hS.put z oq (r a (by omega)).1)) (r.upd (fun q hq => same_sI hq) oq (r a (by omega)).1 (cellI hk (by omega) (by omega) c1 c2 e1)) h1 h2 hl
theorem g_bastore {E : En} {M : Mt} {pc : Nat} {lv : List (Nat × Value)} {st : List Value} {h : Hp} {k n : Nat} {P : Option Value → Hp → Prop} {X : String → Hp → Prop} {a : Nat} {i x : Int32} (hd : decode (mC M) pc = .ok (.bastore, 1)) (hk : hK h a = 21) (hin : vp_in i (hL h a))
    (kk : G E M (pc + 1) lv st (sI h a i.toNatClampNeg (vp_nar .byte x)) k n P X) : G E M pc lv (.int x :: .int i :: .ref a :: st) h k n P X := by
  intro p e R s m args below meth c H locs cells slots ls C r h1 h2 hl
  obtain ⟨cA, c1, c2, c3⟩ := r.arr hk (by omega)
  refine W.bast C.1 C.2.1 c3 (c1 (hL h a) (fun j => .int (hI h a j))) (fun q => by cases q) (by show ¬ (i < 0 ∨ (arrV _ _ _).slots.size ≤ _); rw [arrV_size]; exact hin) rfl rfl hd fun H1 e1 z oq => ?_
  exact kk p e R s m args below meth c H1 _ cells slots ls (C.to (C.hS.put z oq (r a (by omega)).1)) (r.upd (fun q hq => same_sI hq) oq (r a (by omega)).1 (cellI hk (by omega) (by omega) c1 c2 (by rw [e1]; simp [vp_nar, narrow]))) h1 h2 hl
theorem g_castore {E : En} {M : Mt} {pc : Nat} {lv : List (Nat × Value)} {st : List Value} {h : Hp} {k n : Nat} {P : Option Value → Hp → Prop} {X : String → Hp → Prop} {a : Nat} {i x : Int32} (hd : decode (mC M) pc = .ok (.castore, 1)) (hk : hK h a = 23) (hin : vp_in i (hL h a))
    (kk : G E M (pc + 1) lv st (sI h a i.toNatClampNeg (vp_nar .char x)) k n P X) : G E M pc lv (.int x :: .int i :: .ref a :: st) h k n P X := by
  intro p e R s m args below meth c H locs cells slots ls C r h1 h2 hl
  obtain ⟨cA, c1, c2, c3⟩ := r.arr hk (by omega)
  refine W.cast C.1 C.2.1 c3 (c1 (hL h a) (fun j => .int (hI h a j))) (fun q => by cases q) (by show ¬ (i < 0 ∨ (arrV _ _ _).slots.size ≤ _); rw [arrV_size]; exact hin) rfl rfl hd fun H1 e1 z oq => ?_
  exact kk p e R s m args below meth c H1 _ cells slots ls (C.to (C.hS.put z oq (r a (by omega)).1)) (r.upd (fun q hq => same_sI hq) oq (r a (by omega)).1 (cellI hk (by omega) (by omega) c1 c2 (by rw [e1]; simp [vp_nar, narrow]))) h1 h2 hl
theorem g_zastore {E : En} {M : Mt} {pc : Nat} {lv : List (Nat × Value)} {st : List Value} {h : Hp} {k n : Nat} {P : Option Value → Hp → Prop} {X : String → Hp → Prop} {a : Nat} {i x : Int32} (hd : decode (mC M) pc = .ok (.bastore, 1)) (hk : hK h a = 22) (hin : vp_in i (hL h a))
    (kk : G E M (pc + 1) lv st (sI h a i.toNatClampNeg (vp_nar .boolean x)) k n P X) : G E M pc lv (.int x :: .int i :: .ref a :: st) h k n P X := by
  intro p e R s m args below meth c H locs cells slots ls C r h1 h2 hl
  obtain ⟨cA, c1, c2, c3⟩ := r.arr hk (by omega)
  refine W.zast C.1 C.2.1 c3 (c1 (hL h a) (fun j => .int (hI h a j))) (fun q => by cases q) (by show ¬ (i < 0 ∨ (arrV _ _ _).slots.size ≤ _); rw [arrV_size]; exact hin) rfl rfl hd fun H1 e1 z oq => ?_
  exact kk p e R s m args below meth c H1 _ cells slots ls (C.to (C.hS.put z oq (r a (by omega)).1)) (r.upd (fun q hq => same_sI hq) oq (r a (by omega)).1 (cellI hk (by omega) (by omega) c1 c2 (by rw [e1]; simp [vp_nar, narrow]))) h1 h2 hl
theorem g_lastore {E : En} {M : Mt} {pc : Nat} {lv : List (Nat × Value)} {st : List Value} {h : Hp} {k n : Nat} {P : Option Value → Hp → Prop} {X : String → Hp → Prop} {a : Nat} {i : Int32} {x : Int64} (hd : decode (mC M) pc = .ok (.lastore, 1)) (hk : hK h a = 24) (hin : vp_in i (hL h a))
    (kk : G E M (pc + 1) lv st (sJ h a i.toNatClampNeg x) k n P X) : G E M pc lv (.long x :: .int i :: .ref a :: st) h k n P X := by
  intro p e R s m args below meth c H locs cells slots ls C r h1 h2 hl
  obtain ⟨cA, c1, c2, c3⟩ := r.arr hk (by omega)
  refine W.last C.1 C.2.1 c3 (c1 (hL h a) (fun j => .long (hJ h a j))) (fun q => by cases q) (by show ¬ (i < 0 ∨ (arrV _ _ _).slots.size ≤ _); rw [arrV_size]; exact hin) rfl rfl hd fun H1 e1 z oq => ?_
  refine kk p e R s m args below meth c H1 _ cells slots ls (C.to (C.hS.put z oq (r a (by omega)).1)) (r.upd (fun q hq => same_sJ hq) oq (r a (by omega)).1 (Or.inr ⟨by show 20 ≤ hK h a; omega, cA, by show ArrOfT s cA (aTy (hK h a)); rw [hk]; exact c1, by show va_RA s cA (aTy (hK h a)); rw [hk]; exact c2, ?_⟩)) h1 h2 hl
  have e2 : hK (sJ h a i.toNatClampNeg x) a = 24 := hk
  rw [e1, e2]
  show some ((vp_cell cA (hL h a, .inr (.inl (hJ h a)))).setSlot _ _) = some (vp_cell cA (hL h a, .inr (.inl (hJ (sJ h a i.toNatClampNeg x) a))))
  rw [vp_cell_l, vp_cell_l, arrV_store]
  congr 2
  funext q
  by_cases hq : q = i.toNatClampNeg
  · subst hq
    simp [updV, hJ_sJ]
  · simp [updV, hJ_sJ, hq]
/-- a store of a reference into an array of bureaus (4) or shops (5) -/
theorem g_aastore {E : En} {M : Mt} {pc : Nat} {lv : List (Nat × Value)} {st : List Value} {h : Hp} {k n : Nat} {P : Option Value → Hp → Prop} {X : String → Hp → Prop} {a b kd ci : Nat} {i : Int32} (hd : decode (mC M) pc = .ok (.aastore, 1)) (hkd : (kd = 25 ∧ ci = 4) ∨ (kd = 26 ∧ ci = 5)) (hk : hK h a = kd) (hb : hK h b = ci + 1) (hin : vp_in i (hL h a))
    (kk : G E M (pc + 1) lv st (sR h a i.toNatClampNeg (some b)) k n P X) : G E M pc lv (.ref b :: .int i :: .ref a :: st) h k n P X := by
  intro p e R s m args below meth c H locs cells slots ls C r h1 h2 hl
  have hkd2 : kd = 25 ∨ kd = 26 := by omega
  obtain ⟨cA, c1, c2, c3⟩ := r.arr hk (by omega)
  obtain ⟨q, hq, hqn⟩ : ∃ q : vw_C, cls[ci]? = some q ∧ aTy kd = .object q.1 := by
    rcases hkd with ⟨rfl, rfl⟩ | ⟨rfl, rfl⟩ <;> exact ⟨_, rfl, rfl⟩
  rw [aCon_ref hkd2] at c3
  have c3 : H[a]? = some (arrV cA (hL h a) (fun j => va_rf (hR h a j))) := c3
  have hlt : i.toNatClampNeg < hL h a := Nat.not_le.mp fun q => hin (Or.inr q)
  have h0 : ¬ i < 0 := fun q => hin (Or.inl q)
  obtain ⟨r', hr', cellV, g1, g2, g3, -⟩ := r.obj hb (by omega)
  have hcls := (C.hK.1 ci q hq).2
  have c2' := c2
  rw [hqn] at c2'
  obtain ⟨kA, comp, k1, k2, k3, -⟩ := c2'
  have hcomp : comp = (eD E).1 ci := Option.some.inj (k3.symm.trans hcls.1)
  subst hcomp
  obtain ⟨kC, hkC, -⟩ := hcls.2
  refine W.aast C.1 C.2.1 c3 (fun q h => by cases h) (fun h => by cases h) k1 k2 rfl hkC ⟨h0, by show _ < (arrV _ _ _).slots.size; rw [arrV_size]; exact hlt⟩ g1 (fun q h => by rw [g3] at h; cases h) (by rw [g2]; exact hkC) (by rw [g2]; exact va_assign hcls) rfl rfl hd fun H1 e1 z oq => ?_
  refine kk p e R s m args below meth c H1 _ cells slots ls (C.to (C.hS.put z oq (r a (by omega)).1)) (r.upd (fun q hq => same_sR hq) oq (r a (by omega)).1 (Or.inr ⟨by show 20 ≤ hK h a; omega, cA, by show ArrOfT s cA (aTy (hK h a)); rw [hk]; exact c1, by show va_RA s cA (aTy (hK h a)); rw [hk]; exact c2, ?_⟩)) h1 h2 hl
  have e2 : hK (sR h a i.toNatClampNeg (some b)) a = kd := hk
  rw [e1, e2, aCon_ref hkd2, vp_cell_q, arrV_store]
  congr 2
  funext q
  by_cases hq : q = i.toNatClampNeg
  · subst hq
    simp [updV, hR_sR, va_rf]
  · simp [updV, hR_sR, hq]
/-- new -/
theorem cdf_0 : ∀ k, k < 7 → defaultValue (ty_0 k) = if rf_0 k then Value.null else Value.int 0 := by decide +kernel
theorem cdf_1 : ∀ k, k < 6 → defaultValue (ty_1 k) = if rf_1 k then Value.null else Value.int 0 := by decide +kernel
theorem cdf_2 : ∀ k, k < 6 → defaultValue (ty_2 k) = if rf_2 k then Value.null else Value.int 0 := by decide +kernel
theorem cdf_3 : ∀ k, k < 4 → defaultValue (ty_3 k) = if rf_3 k then Value.null else Value.int 0 := by decide +kernel
theorem cdf_4 : ∀ k, k < 14 → defaultValue (ty_4 k) = if rf_4 k then Value.null else Value.int 0 := by decide +kernel
theorem cdf_5 : ∀ k, k < 16 → defaultValue (ty_5 k) = if rf_5 k then Value.null else Value.int 0 := by decide +kernel
theorem cdf_6 : ∀ k, k < 3 → defaultValue (ty_6 k) = if rf_6 k then Value.null else Value.int 0 := by decide +kernel
theorem cdf_7 : ∀ k, k < 3 → defaultValue (ty_7 k) = if rf_7 k then Value.null else Value.int 0 := by decide +kernel
theorem cdf_8 : ∀ k, k < 4 → defaultValue (ty_8 k) = if rf_8 k then Value.null else Value.int 0 := by decide +kernel
theorem cdf_9 : ∀ k, k < 15 → defaultValue (ty_9 k) = if rf_9 k then Value.null else Value.int 0 := by decide +kernel
theorem cdf_10 : ∀ k, k < 4 → defaultValue (ty_10 k) = if rf_10 k then Value.null else Value.int 0 := by decide +kernel
theorem cls_df : ∀ (ci : Nat) (q : vw_C), cls[ci]? = some q → ∀ k, k < q.2.2 → defaultValue (cTy ci k) = if cRf ci k then Value.null else Value.int 0 := by
  intro ci q hq
  match ci, hq with
  | 0, hq => cases hq; exact cdf_0
  | 1, hq => cases hq; exact cdf_1
  | 2, hq => cases hq; exact cdf_2
  | 3, hq => cases hq; exact cdf_3
  | 4, hq => cases hq; exact cdf_4
  | 5, hq => cases hq; exact cdf_5
  | 6, hq => cases hq; exact cdf_6
  | 7, hq => cases hq; exact cdf_7
  | 8, hq => cases hq; exact cdf_8
  | 9, hq => cases hq; exact cdf_9
  | 10, hq => cases hq; exact cdf_10
  | n + 11, hq => simp [cls] at hq
def CLk (own : String) (idx ci : Nat) : Prop := ∃ q : vw_C, cls[ci]? = some q ∧ Cond.classLink own idx q.1 ∈ tG ∧ Cond.instantiable q.1 q.2.2 ∈ tG ∧ Cond.initialized q.1 ∈ tG
theorem rel_new {E : En} {M : Mt} {p : Program} {R : Room} {s : State} {m : MethodId} {args : Array Value} {meth : Method} {c : Code} {H H1 : Heap} {locs : List Loc} (C : Cx E M p R s m args meth c H locs) (z1 : H1.size = H.size + 1) (o1 : ∀ q : Nat, q < H.size → H1[q]? = H[q]?) : Cx E M p R s m args meth c H1 locs ∧ eB E ≤ H.size := by
  have hS := C.hS
  refine ⟨C.to ⟨Nat.le_trans hS.1 (by omega), fun x h1 h2 => (o1 x (Nat.lt_of_lt_of_le h1 hS.1)).trans (hS.2.1 x h1 h2), hS.2.2⟩, Nat.le_trans C.hB hS.1⟩
theorem rel_free {E : En} {s : State} {h : Hp} {H : Heap} (r : Rel E s h H) : hK h H.size = 0 := by
  rcases Nat.eq_zero_or_pos (hK h H.size) with z | z
  · exact z
  · exact absurd (r.lt (a := H.size) (by omega)) (Nat.lt_irrefl _)
theorem g_new {E : En} {M : Mt} {pc : Nat} {lv : List (Nat × Value)} {st : List Value} {h : Hp} {k n : Nat} {P : Option Value → Hp → Prop} {X : String → Hp → Prop} {idx ci : Nat} (hd : decode (mC M) pc = .ok (.new idx, 3)) (hc : CLk (mY M).cls idx ci) (hci : ci < 19)
    (kk : ∀ a : Nat, hK h a = 0 → G E M (pc + 3) lv (.ref a :: st) (hNew h a (ci + 1) 0) k n P X) : G E M pc lv st h (k + 1) (n + cNf ci) P X := by
  intro p e R s m args below meth c H locs cells slots ls C r h1 h2 hl
  obtain ⟨q, hq, l1, l2, l3⟩ := hc
  obtain ⟨o1, o2, o3, o4, o5⟩ := cls_ok ci q hq
  have hKn := C.hK.1 ci _ hq
  refine W.newcK C.1 C.2.1 C.2.2.2.1 (C.hts _ l1) (C.hts _ l2) (C.hts _ l3) rfl hd (by omega) (by omega) hKn.2.1 rfl fun H1 kC hkC e1 z1 ol => ?_
  obtain ⟨C1, hB⟩ := rel_new C z1 ol
  refine kk H.size (rel_free r) p e R s m args below meth c H1 locs _ _ ls C1 (r.push ol hB (Or.inl ?_)) (by omega) (by omega) hl
  have e9 : hK (hNew h H.size (ci + 1) 0) H.size = ci + 1 := by rw [hK_new, if_pos rfl]
  rw [e9]
  refine ⟨by omega, ?_⟩
  show va_at (eD E) cls (H.size, .inr (ci, flds (hNew h H.size (ci + 1) 0) H.size ci)) H1
  refine ⟨_, hq, (u_born (cTy ci) C.hts o1 hKn hkC e1 o2).to (fun j hj => ?_)⟩
  show defaultValue (cTy ci j) = (flds _ _ ci).getD j .null
  rw [List.getD_eq_getElem?_getD, flds_get (by omega), cls_df ci q hq j hj, hI_new, hR_new]
  simp [va_rf]
/-- newarray -/
theorem g_newarray {E : En} {M : Mt} {pc : Nat} {lv : List (Nat × Value)} {st : List Value} {h : Hp} {k n : Nat} {P : Option Value → Hp → Prop} {X : String → Hp → Prop} {atype : ArrayType} {z : Int32} {N kd : Nat} (hd : decode (mC M) pc = .ok (.newarray atype, 2)) (hkd : 20 ≤ kd ∧ kd < 25) (hty : newarray.typeOf atype = aTy kd) (hw : Cond.arrayClass (aTy kd) ∈ tG) (hn : ¬ z < 0) (hN : z.toNatClampNeg = N) (hb : N * componentBytes (aTy kd) ≤ 536870912)
    (kk : ∀ a : Nat, hK h a = 0 → G E M (pc + 2) lv (.ref a :: st) (hNew h a kd N) k n P X) : G E M pc lv (.int z :: st) h (k + 1) (n + N) P X := by
  intro p e R s m args below meth c H locs cells slots ls C r h1 h2 hl
  refine va_newaK C.1 C.2.1 (by rw [hty]; exact C.hts _ hw) rfl hd rfl hn hN (by rw [hty]; exact hb) (by omega) (by omega) rfl fun H1 cA e1 z1 ol c1 hnm => ?_
  obtain ⟨C1, hB⟩ := rel_new C z1 ol
  rw [hty] at e1 c1 hnm
  have e9 : hK (hNew h H.size kd N) H.size = kd := by rw [hK_new, if_pos rfl]
  refine kk H.size (rel_free r) p e R s m args below meth c H1 locs _ _ ls C1 (r.push ol hB (Or.inr ?_)) (by omega) (by omega) hl
  rw [e9]
  refine ⟨hkd.1, cA, c1, ?_, ?_⟩
  · obtain ⟨k1, k2⟩ := hkd
    rcases (show kd = 20 ∨ kd = 21 ∨ kd = 22 ∨ kd = 23 ∨ kd = 24 by omega) with rfl | rfl | rfl | rfl | rfl <;> exact hnm
  · rw [e1]
    obtain ⟨k1, k2⟩ := hkd
    rcases (show kd = 20 ∨ kd = 21 ∨ kd = 22 ∨ kd = 23 ∨ kd = 24 by omega) with rfl | rfl | rfl | rfl | rfl <;> simp [aCon, vp_cell, hI_new, hJ_new, hL_new, aTy, defaultValue]
/-- anewarray -/
theorem g_anewarray {E : En} {M : Mt} {pc : Nat} {lv : List (Nat × Value)} {st : List Value} {h : Hp} {k n : Nat} {P : Option Value → Hp → Prop} {X : String → Hp → Prop} {z : Int32} {N kd idx : Nat} {Cn : String} (hd : decode (mC M) pc = .ok (.anewarray idx, 3)) (hkd : (kd = 25 ∧ Cn = "HonestScales$Bureau") ∨ (kd = 26 ∧ Cn = "HonestScales$Shop")) (hl : Cond.classLink (mY M).cls idx Cn ∈ tG) (hn : ¬ z < 0) (hN : z.toNatClampNeg = N) (hb : N * 4 ≤ 536870912)
    (kk : ∀ a : Nat, hK h a = 0 → G E M (pc + 3) lv (.ref a :: st) (hNew h a kd N) k n P X) : G E M pc lv (.int z :: st) h (k + 1) (n + N) P X := by
  intro p e R s m args below meth c H locs cells slots ls C r h1 h2 hls
  subst hN
  have hty : aTy kd = .object Cn := by rcases hkd with ⟨rfl, rfl⟩ | ⟨rfl, rfl⟩ <;> rfl
  have hov : va_AO Cn s := by
    rcases hkd with ⟨rfl, rfl⟩ | ⟨rfl, rfl⟩
    · exact C.cst.2.1
    · exact C.cst.2.2.1
  have hkd2 : kd = 25 ∨ kd = 26 := by omega
  refine W.anew C.1 C.2.1 C.2.2.2.1 (C.hts _ hl) (va_AO.use hov) rfl hd rfl hn hb (by omega) (by omega) fun cA kA comp f1 f2 f3 f4 => ?_
  generalize hH1 : H.push ({ cls := cA, slots := Array.replicate z.toNatClampNeg .null, vm := .none } : Cell) = H1
  have z1 : H1.size = H.size + 1 := by rw [← hH1, Array.size_push]
  have e1 : H1[H.size]? = some (arrV cA z.toNatClampNeg (fun _ => .null)) := by rw [← hH1, Array.getElem?_push_size, ← arrV_new]
  have o1 : ∀ q : Nat, q < H.size → H1[q]? = H[q]? := fun q hq => by rw [← hH1, Array.getElem?_push, if_neg (Nat.ne_of_lt hq)]
  have hAr : ArrOfT s cA (.object Cn) := fun N z => ⟨(fun k h => by cases h), kA, f2, comp, f3⟩
  obtain ⟨C1, hB⟩ := rel_new C z1 o1
  have e9 : hK (hNew h H.size kd z.toNatClampNeg) H.size = kd := by rw [hK_new, if_pos rfl]
  refine kk H.size (rel_free r) p e R s m args below meth c H1 locs _ _ ls C1 (r.push o1 hB (Or.inr ?_)) (by omega) (by omega) hls
  rw [e9, hty, aCon_ref hkd2]
  refine ⟨by omega, cA, hAr, ⟨kA, comp, f2, f3, f4, f1⟩, ?_⟩
  rw [e1, vp_cell_q, hL_new, hR_new, if_pos rfl, if_pos rfl]
  rfl
/-- the end of a walk: what is left of the room doesn't matter -/
theorem g_end {E : En} {M : Mt} {p : Program} {e : Env} {R : Room} {s : State} {m : MethodId} {args : Array Value} {below : List Frame} {meth : Method} {c : Code} {H : Heap} {locs : List Loc} {cells slots k n : Nat} {Q : Array Value → State → Outcome → State → Prop} {XC : String → State → State → Prop} {g : JFrame}
    (h1 : cells + k ≤ R.cells) (h2 : slots + n ≤ R.slots) (kk : W p (eL E) e R s m args below meth c H locs R.cells R.slots (MQ below Q args s R.cells R.slots (gA E)) g) : W p (eL E) e R s m args below meth c H locs cells slots (vx_MQ below Q XC args s R.cells R.slots (gA E)) g :=
  vx_ret (W.widen (by omega) (by omega) kk)
theorem g_q {E : En} {M : Mt} {p : Program} {R : Room} {s : State} {m : MethodId} {args : Array Value} {meth : Method} {c : Code} {H : Heap} {locs : List Loc} {h : Hp} {P : Option Value → Hp → Prop} {v : Option Value} (C : Cx E M p R s m args meth c H locs) (r : Rel E s h H) (hp : P v h) : ∀ t : State, t.heap = H → s.WarmedH t.vm → gQ E P args s (.returned v) t := by
  intro t ht hW
  refine ⟨⟨v, h, rfl, hp, ?_⟩, C.hS.F ht⟩
  rw [ht]
  exact r.moved hW.alike
theorem g_iret {E : En} {M : Mt} {pc : Nat} {lv : List (Nat × Value)} {h : Hp} {k n : Nat} {P : Option Value → Hp → Prop} {X : String → Hp → Prop} {x : Int32} (hd : decode (mC M) pc = .ok (.ireturn, 1)) (hr : mRt M = some .int) (hp : P (some (.int x)) h) : G E M pc lv [.int x] h k n P X := by
  intro p e R s m args below meth c H locs cells slots ls C r h1 h2 hl
  exact g_end (E := E) (M := M) h1 h2 (W.iret C.1 C.2.1 (by rw [C.2.2.2.2.2.1]; exact hr) (g_q C r hp) (fun q hq => C.hS.2.2 q hq) hd C.2.2.2.2.2.2.1)
theorem g_dret {E : En} {M : Mt} {pc : Nat} {lv : List (Nat × Value)} {h : Hp} {k n : Nat} {P : Option Value → Hp → Prop} {X : String → Hp → Prop} {x : UInt64} (hd : decode (mC M) pc = .ok (.dreturn, 1)) (hr : mRt M = some .double) (hp : P (some (.double x)) h) : G E M pc lv [.double x] h k n P X := by
  intro p e R s m args below meth c H locs cells slots ls C r h1 h2 hl
  exact g_end (E := E) (M := M) h1 h2 (W.dret C.1 C.2.1 (by rw [C.2.2.2.2.2.1]; exact hr) (g_q C r hp) (fun q hq => C.hS.2.2 q hq) hd C.2.2.2.2.2.2.1)
theorem g_fret {E : En} {M : Mt} {pc : Nat} {lv : List (Nat × Value)} {h : Hp} {k n : Nat} {P : Option Value → Hp → Prop} {X : String → Hp → Prop} {x : UInt32} (hd : decode (mC M) pc = .ok (.freturn, 1)) (hr : mRt M = some .float) (hp : P (some (.float x)) h) : G E M pc lv [.float x] h k n P X := by
  intro p e R s m args below meth c H locs cells slots ls C r h1 h2 hl
  exact g_end (E := E) (M := M) h1 h2 (W.fret C.1 C.2.1 (by rw [C.2.2.2.2.2.1]; exact hr) (g_q C r hp) (fun q hq => C.hS.2.2 q hq) hd C.2.2.2.2.2.2.1)
theorem g_zret {E : En} {M : Mt} {pc : Nat} {lv : List (Nat × Value)} {h : Hp} {k n : Nat} {P : Option Value → Hp → Prop} {X : String → Hp → Prop} {x : Int32} (hd : decode (mC M) pc = .ok (.ireturn, 1)) (hr : mRt M = some .boolean) (hx : narrow .boolean (.int x) = .int x) (hp : P (some (.int x)) h) : G E M pc lv [.int x] h k n P X := by
  intro p e R s m args below meth c H locs cells slots ls C r h1 h2 hl
  exact g_end (E := E) (M := M) h1 h2 (W.zret C.1 C.2.1 (by rw [C.2.2.2.2.2.1]; exact hr) hx (g_q C r hp) (fun q hq => C.hS.2.2 q hq) hd C.2.2.2.2.2.2.1)
theorem g_vret {E : En} {M : Mt} {pc : Nat} {lv : List (Nat × Value)} {h : Hp} {k n : Nat} {P : Option Value → Hp → Prop} {X : String → Hp → Prop} (hd : decode (mC M) pc = .ok (.return_, 1)) (hr : mRt M = none) (hp : P none h) : G E M pc lv [] h k n P X := by
  intro p e R s m args below meth c H locs cells slots ls C r h1 h2 hl
  exact g_end (E := E) (M := M) h1 h2 (W.vret C.1 C.2.1 (by rw [C.2.2.2.2.2.1]; exact hr) (g_q C r hp) (fun q hq => C.hS.2.2 q hq) hd C.2.2.2.2.2.2.1)
theorem g_aret {E : En} {M : Mt} {pc : Nat} {lv : List (Nat × Value)} {h : Hp} {k n : Nat} {P : Option Value → Hp → Prop} {X : String → Hp → Prop} {b : Nat} {ty : FieldType} (hd : decode (mC M) pc = .ok (.areturn, 1)) (hr : mRt M = some ty) (hrt : (∃ n, ty = .object n) ∨ ∃ t, ty = .array t) (hp : P (some (.ref b)) h) : G E M pc lv [.ref b] h k n P X := by
  intro p e R s m args below meth c H locs cells slots ls C r h1 h2 hl
  exact g_end (E := E) (M := M) h1 h2 (W.aret C.1 C.2.1 (by rw [C.2.2.2.2.2.1]; exact hr) hrt (Or.inr ⟨b, rfl⟩) (g_q C r hp) (fun q hq => C.hS.2.2 q hq) hd C.2.2.2.2.2.2.1)
