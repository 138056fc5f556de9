/-! ROWS of Twin[] (kind 27, objects of the class 9) -/
/-- the arrays of references: of bureaus (25), of shops (26) -/
theorem aTy_refT {kd : Nat} (h : kd = 27) : ∃ C : String, aTy kd = .object C := by subst h; exact ⟨_, rfl⟩
theorem aCon_refT {h : Hp} {a kd : Nat} (hk : kd = 27) : aCon h a kd = (hL h a, .inr (.inr (.inr (.inr (hR h a))))) := by subst hk; rfl
theorem g_aaloadVT {E : En} {M : Mt} {pc : Nat} {lv : List (Nat × Value)} {st : List Value} {h : Hp} {k n : Nat} {P : Option Value → Hp → Prop} {X : String → Hp → Prop} {a kd : Nat} {i : Int32} (hd : decode (mC M) pc = .ok (.aaload, 1)) (hkd : kd = 27) (hk : hK h a = kd) (hin : vp_in i (hL h a))
    (kk : G E M (pc + 1) lv (va_rf (hR h a i.toNatClampNeg) :: st) h k n P X) : G E M pc lv (.int i :: .ref a :: st) h k n P X := by
  intro p e R s m args below meth c H locs cells slots ls C r h1 h2 hl
  obtain ⟨cA, c1, c2, c3⟩ := r.arr hk (by omega)
  obtain ⟨Cn, hC⟩ := aTy_refT hkd
  rw [hC] at c1
  rw [aCon_refT hkd] at c3
  have hlt : i.toNatClampNeg < hL h a := Nat.not_le.mp fun q => hin (Or.inr q)
  exact W.aald (v := va_rf (hR h a i.toNatClampNeg)) (ty := .object Cn) C.1 C.2.1 c3 (c1 (hL h a) (fun j => va_rf (hR h a j))) rfl (fun q => by cases q) (by show ¬ (i < 0 ∨ (arrV _ _ _).slots.size ≤ _); rw [arrV_size]; exact hin) (by show (arrV _ _ _).slots[_]? = _; rw [arrV_read _ _ hlt]) rfl rfl hd (kk p e R s m args below meth c H locs cells slots ls C r h1 h2 hl)
theorem g_aaloadT {E : En} {M : Mt} {pc : Nat} {lv : List (Nat × Value)} {st : List Value} {h : Hp} {k n : Nat} {P : Option Value → Hp → Prop} {X : String → Hp → Prop} {a b kd : Nat} {i : Int32} (hd : decode (mC M) pc = .ok (.aaload, 1)) (hkd : kd = 27) (hk : hK h a = kd) (hin : vp_in i (hL h a)) (hb : hR h a i.toNatClampNeg = some b)
    (kk : G E M (pc + 1) lv (.ref b :: st) h k n P X) : G E M pc lv (.int i :: .ref a :: st) h k n P X :=
  g_aaloadVT hd hkd hk hin (by rw [hb]; exact kk)
theorem g_aaloadNT {E : En} {M : Mt} {pc : Nat} {lv : List (Nat × Value)} {st : List Value} {h : Hp} {k n : Nat} {P : Option Value → Hp → Prop} {X : String → Hp → Prop} {a kd : Nat} {i : Int32} (hd : decode (mC M) pc = .ok (.aaload, 1)) (hkd : kd = 27) (hk : hK h a = kd) (hin : vp_in i (hL h a)) (hb : hR h a i.toNatClampNeg = none)
    (kk : G E M (pc + 1) lv (.null :: st) h k n P X) : G E M pc lv (.int i :: .ref a :: st) h k n P X :=
  g_aaloadVT hd hkd hk hin (by rw [hb]; exact kk)
/-- a store of a reference into an array of bureaus (4) or shops (5) -/
theorem g_aastoreT {E : En} {M : Mt} {pc : Nat} {lv : List (Nat × Value)} {st : List Value} {h : Hp} {k n : Nat} {P : Option Value → Hp → Prop} {X : String → Hp → Prop} {a b kd ci : Nat} {i : Int32} (hd : decode (mC M) pc = .ok (.aastore, 1)) (hkd : kd = 27 ∧ ci = 9) (hk : hK h a = kd) (hb : hK h b = ci + 1) (hin : vp_in i (hL h a))
    (kk : G E M (pc + 1) lv st (sR h a i.toNatClampNeg (some b)) k n P X) : G E M pc lv (.ref b :: .int i :: .ref a :: st) h k n P X := by
  intro p e R s m args below meth c H locs cells slots ls C r h1 h2 hl
  have hkd2 : kd = 27 := by omega
  obtain ⟨cA, c1, c2, c3⟩ := r.arr hk (by omega)
  obtain ⟨q, hq, hqn⟩ : ∃ q : vw_C, cls[ci]? = some q ∧ aTy kd = .object q.1 := by
    obtain ⟨rfl, rfl⟩ := hkd; exact ⟨_, rfl, rfl⟩
  rw [aCon_refT hkd2] at c3
  have c3 : H[a]? = some (arrV cA (hL h a) (fun j => va_rf (hR h a j))) := c3
  have hlt : i.toNatClampNeg < hL h a := Nat.not_le.mp fun q => hin (Or.inr q)
  have h0 : ¬ i < 0 := fun q => hin (Or.inl q)
  obtain ⟨r', hr', cellV, g1, g2, g3, -⟩ := r.obj hb (by omega)
  have hcls := (C.hK.1 ci q hq).2
  have c2' := c2
  rw [hqn] at c2'
  obtain ⟨kA, comp, k1, k2, k3, -⟩ := c2'
  have hcomp : comp = (eD E).1 ci := Option.some.inj (k3.symm.trans hcls.1)
  subst hcomp
  obtain ⟨kC, hkC, -⟩ := hcls.2
  refine W.aast C.1 C.2.1 c3 (fun q h => by cases h) (fun h => by cases h) k1 k2 rfl hkC ⟨h0, by show _ < (arrV _ _ _).slots.size; rw [arrV_size]; exact hlt⟩ g1 (fun q h => by rw [g3] at h; cases h) (by rw [g2]; exact hkC) (by rw [g2]; exact va_assign hcls) rfl rfl hd fun H1 e1 z oq => ?_
  refine kk p e R s m args below meth c H1 _ cells slots ls (C.to (C.hS.put z oq (r a (by omega)).1)) (r.upd (fun q hq => same_sR hq) oq (r a (by omega)).1 (Or.inr ⟨by show 20 ≤ hK h a; omega, cA, by show ArrOfT s cA (aTy (hK h a)); rw [hk]; exact c1, by show va_RA s cA (aTy (hK h a)); rw [hk]; exact c2, ?_⟩)) h1 h2 hl
  have e2 : hK (sR h a i.toNatClampNeg (some b)) a = kd := hk
  rw [e1, e2, aCon_refT hkd2, vp_cell_q, arrV_store]
  congr 2
  funext q
  by_cases hq : q = i.toNatClampNeg
  · subst hq
    simp [updV, hR_sR, va_rf]
  · simp [updV, hR_sR, hq]
/-- anewarray -/
theorem g_anewarrayT {E : En} {M : Mt} {pc : Nat} {lv : List (Nat × Value)} {st : List Value} {h : Hp} {k n : Nat} {P : Option Value → Hp → Prop} {X : String → Hp → Prop} {z : Int32} {N kd idx : Nat} {Cn : String} (hd : decode (mC M) pc = .ok (.anewarray idx, 3)) (hkd : kd = 27 ∧ Cn = "HonestScalesLaw$Twin") (hl : Cond.classLink (mY M).cls idx Cn ∈ tG) (hn : ¬ z < 0) (hN : z.toNatClampNeg = N) (hb : N * 4 ≤ 536870912)
    (kk : ∀ a : Nat, hK h a = 0 → G E M (pc + 3) lv (.ref a :: st) (hNew h a kd N) k n P X) : G E M pc lv (.int z :: st) h (k + 1) (n + N) P X := by
  intro p e R s m args below meth c H locs cells slots ls C r h1 h2 hls
  subst hN
  have hty : aTy kd = .object Cn := by obtain ⟨rfl, rfl⟩ := hkd; rfl
  have hov : va_AO Cn s := by
    obtain ⟨rfl, rfl⟩ := hkd
    exact C.cst.2.2.2.2.2.2.2.2.2.2.2.2.2
  have hkd2 : kd = 27 := by omega
  refine W.anew C.1 C.2.1 C.2.2.2.1 (C.hts _ hl) (va_AO.use hov) rfl hd rfl hn hb (by omega) (by omega) fun cA kA comp f1 f2 f3 f4 => ?_
  generalize hH1 : H.push ({ cls := cA, slots := Array.replicate z.toNatClampNeg .null, vm := .none } : Cell) = H1
  have z1 : H1.size = H.size + 1 := by rw [← hH1, Array.size_push]
  have e1 : H1[H.size]? = some (arrV cA z.toNatClampNeg (fun _ => .null)) := by rw [← hH1, Array.getElem?_push_size, ← arrV_new]
  have o1 : ∀ q : Nat, q < H.size → H1[q]? = H[q]? := fun q hq => by rw [← hH1, Array.getElem?_push, if_neg (Nat.ne_of_lt hq)]
  have hAr : ArrOfT s cA (.object Cn) := fun N z => ⟨(fun k h => by cases h), kA, f2, comp, f3⟩
  obtain ⟨C1, hB⟩ := rel_new C z1 o1
  have e9 : hK (hNew h H.size kd z.toNatClampNeg) H.size = kd := by rw [hK_new, if_pos rfl]
  refine kk H.size (rel_free r) p e R s m args below meth c H1 locs _ _ ls C1 (r.push o1 hB (Or.inr ?_)) (by omega) (by omega) hls
  rw [e9, hty, aCon_refT hkd2]
  refine ⟨by omega, cA, hAr, ⟨kA, comp, f2, f3, f4, f1⟩, ?_⟩
  rw [e1, vp_cell_q, hL_new, hR_new, if_pos rfl, if_pos rfl]
  rfl
