/-! ROWS: an instruction turns G at it into G at the next -/
theorem Rel.obj {E : En} {U : State} {h : Hp} {H : Heap} {a ci : Nat} (r : Rel E U h H) (hk : hK h a = ci + 1) (hci : ci < 19) : va_at (eD E) cls (a, .inr (ci, flds h a ci)) H := by
  rcases (r a (by omega)).2 with ⟨-, c⟩ | ⟨c, -⟩
  · rw [hk] at c; exact c
  · omega
theorem Rel.arr {E : En} {U : State} {h : Hp} {H : Heap} {a kd : Nat} (r : Rel E U h H) (hk : hK h a = kd) (hkd : 20 ≤ kd) : ∃ cA : ClassId, ArrOfT U cA (aTy kd) ∧ va_RA U cA (aTy kd) ∧ H[a]? = some (vp_cell cA (aCon h a kd)) := by
  subst hk
  rcases (r a (by omega)).2 with ⟨c, -⟩ | ⟨-, c⟩
  · omega
  · exact c
theorem one_P {D : va_G} {cl : List vw_C} {q : Nat × va_E} {H : Heap} (h : va_at D cl q H) : va_P D cl [q] H := by
  intro k x hx
  have hz : k < 1 := (List.getElem?_eq_some_iff.mp hx).1
  rw [show k = 0 by omega] at hx
  cases hx
  exact h
theorem flds_get {h : Hp} {a ci k : Nat} (hk : k < cNf ci) : (flds h a ci)[k]? = some (if cRf ci k then va_rf (hR h a k) else .int (hI h a k)) := by simp [flds, hk]
theorem flds_len {h : Hp} {a ci : Nat} : (flds h a ci).length = cNf ci := by simp [flds]
theorem flds_sI {h : Hp} {a ci k : Nat} {v : Int32} (hr : cRf ci k = false) : flds (sI h a k v) a ci = (flds h a ci).set k (.int v) := by
  apply List.ext_getElem?
  intro j
  rw [List.getElem?_set]
  by_cases hj : j < cNf ci
  · by_cases e : k = j
    · subst e
      rw [if_pos rfl, flds_len, if_pos hj, flds_get hj, hr]; simp [hI_sI]
    · simp [flds_get hj, e, hI_sI, hR_sI, Ne.symm e]
  · rw [List.getElem?_eq_none (by simp [flds_len]; omega)]
    by_cases e : k = j
    · subst e; simp [flds_len]; omega
    · simp [e, flds_len]; omega
theorem flds_sR {h : Hp} {a ci k : Nat} {v : Option Nat} (hr : cRf ci k = true) : flds (sR h a k v) a ci = (flds h a ci).set k (va_rf v) := by
  apply List.ext_getElem?
  intro j
  rw [List.getElem?_set]
  by_cases hj : j < cNf ci
  · by_cases e : k = j
    · subst e
      rw [if_pos rfl, flds_len, if_pos hj, flds_get hj, hr]; simp [hR_sR]
    · simp [flds_get hj, e, hR_sR, hI_sR, Ne.symm e]
  · rw [List.getElem?_eq_none (by simp [flds_len]; omega)]
    by_cases e : k = j
    · subst e; simp [flds_len]; omega
    · simp [e, flds_len]; omega
theorem same_sI {h : Hp} {a k q : Nat} {v : Int32} (hx : q ≠ a) : SameAt h (sI h a k v) q := ⟨funext fun j => by simp [hI_sI, hx], rfl, rfl, rfl, rfl⟩
theorem same_sR {h : Hp} {a k q : Nat} {v : Option Nat} (hx : q ≠ a) : SameAt h (sR h a k v) q := ⟨rfl, funext fun j => by simp [hR_sR, hx], rfl, rfl, rfl⟩
theorem same_sJ {h : Hp} {a k q : Nat} {v : Int64} (hx : q ≠ a) : SameAt h (sJ h a k v) q := ⟨rfl, rfl, funext fun j => by simp [hJ_sJ, hx], rfl, rfl⟩
/-- a class' own field reference: the entry idx of own's pool is the field f of the class ci -/
def FLk (own : String) (idx ci f : Nat) : Prop := ∃ q : vw_C, cls[ci]? = some q ∧ f < q.2.2 ∧ Cond.fieldLink own idx (q.2.1 f).1 (q.2.1 f).2.1 (q.2.1 f).2.2.1 ∈ tG
theorem g_iconst {E : En} {M : Mt} {pc : Nat} {lv : List (Nat × Value)} {st : List Value} {h : Hp} {k n : Nat} {P : Option Value → Hp → Prop} {X : String → Hp → Prop} {i : Int} {v : Int32} (hd : decode (mC M) pc = .ok (.iconst i, 1)) (hv : Int32.ofInt i = v)
    (kk : G E M (pc + 1) lv (.int v :: st) h k n P X) : G E M pc lv (st) h k n P X := by
  intro p e R s m args below meth c H locs cells slots ls C r h1 h2 hl
  exact lv_iconst C.1 C.2.1 hd hv (kk p e R s m args below meth c H locs cells slots ls C r h1 h2 hl)
theorem g_bipush {E : En} {M : Mt} {pc : Nat} {lv : List (Nat × Value)} {st : List Value} {h : Hp} {k n : Nat} {P : Option Value → Hp → Prop} {X : String → Hp → Prop} {i : Int} {v : Int32} (hd : decode (mC M) pc = .ok (.bipush i, 2)) (hv : (Int8.ofInt i).toInt32 = v)
    (kk : G E M (pc + 2) lv (.int v :: st) h k n P X) : G E M pc lv (st) h k n P X := by
  intro p e R s m args below meth c H locs cells slots ls C r h1 h2 hl
  exact lv_bipush C.1 C.2.1 hd hv (kk p e R s m args below meth c H locs cells slots ls C r h1 h2 hl)
theorem g_sipush {E : En} {M : Mt} {pc : Nat} {lv : List (Nat × Value)} {st : List Value} {h : Hp} {k n : Nat} {P : Option Value → Hp → Prop} {X : String → Hp → Prop} {i : Int} {v : Int32} (hd : decode (mC M) pc = .ok (.sipush i, 3)) (hv : (Int16.ofInt i).toInt32 = v)
    (kk : G E M (pc + 3) lv (.int v :: st) h k n P X) : G E M pc lv (st) h k n P X := by
  intro p e R s m args below meth c H locs cells slots ls C r h1 h2 hl
  exact lv_sipush C.1 C.2.1 hd hv (kk p e R s m args below meth c H locs cells slots ls C r h1 h2 hl)
theorem g_lconst {E : En} {M : Mt} {pc : Nat} {lv : List (Nat × Value)} {st : List Value} {h : Hp} {k n : Nat} {P : Option Value → Hp → Prop} {X : String → Hp → Prop} {i : Fin 2} {v : Int64} (hd : decode (mC M) pc = .ok (.lconst i, 1)) (hv : Int64.ofNat (i : Nat) = v)
    (kk : G E M (pc + 1) lv (.long v :: st) h k n P X) : G E M pc lv (st) h k n P X := by
  intro p e R s m args below meth c H locs cells slots ls C r h1 h2 hl
  exact lv_lconst C.1 C.2.1 hd hv (kk p e R s m args below meth c H locs cells slots ls C r h1 h2 hl)
theorem g_fconst0 {E : En} {M : Mt} {pc : Nat} {lv : List (Nat × Value)} {st : List Value} {h : Hp} {k n : Nat} {P : Option Value → Hp → Prop} {X : String → Hp → Prop}  (hd : decode (mC M) pc = .ok (.fconst 0, 1)) 
    (kk : G E M (pc + 1) lv (.float FP.fconst0 :: st) h k n P X) : G E M pc lv (st) h k n P X := by
  intro p e R s m args below meth c H locs cells slots ls C r h1 h2 hl
  exact lv_fconst0 C.1 C.2.1 hd  (kk p e R s m args below meth c H locs cells slots ls C r h1 h2 hl)
theorem g_dconst0 {E : En} {M : Mt} {pc : Nat} {lv : List (Nat × Value)} {st : List Value} {h : Hp} {k n : Nat} {P : Option Value → Hp → Prop} {X : String → Hp → Prop}  (hd : decode (mC M) pc = .ok (.dconst 0, 1)) 
    (kk : G E M (pc + 1) lv (.double FP.dconst0 :: st) h k n P X) : G E M pc lv (st) h k n P X := by
  intro p e R s m args below meth c H locs cells slots ls C r h1 h2 hl
  exact lv_dconst0 C.1 C.2.1 hd  (kk p e R s m args below meth c H locs cells slots ls C r h1 h2 hl)
theorem g_null {E : En} {M : Mt} {pc : Nat} {lv : List (Nat × Value)} {st : List Value} {h : Hp} {k n : Nat} {P : Option Value → Hp → Prop} {X : String → Hp → Prop}  (hd : decode (mC M) pc = .ok (.aconst_null, 1)) 
    (kk : G E M (pc + 1) lv (.null :: st) h k n P X) : G E M pc lv (st) h k n P X := by
  intro p e R s m args below meth c H locs cells slots ls C r h1 h2 hl
  exact lv_null C.1 C.2.1 hd  (kk p e R s m args below meth c H locs cells slots ls C r h1 h2 hl)
theorem g_iload_n {E : En} {M : Mt} {pc : Nat} {lv : List (Nat × Value)} {st : List Value} {h : Hp} {k n : Nat} {P : Option Value → Hp → Prop} {X : String → Hp → Prop} {j : Fin 4} {i : Nat} {x : Int32} (hd : decode (mC M) pc = .ok (.iload_n j, 1)) (hi : (j : Nat) = i) (w : Nat) (hw : lv[w]? = some (i, .int x))
    (kk : G E M (pc + 1) lv (.int x :: st) h k n P X) : G E M pc lv (st) h k n P X := by
  intro p e R s m args below meth c H locs cells slots ls C r h1 h2 hl
  exact lv_iload_n C.1 C.2.1 hd hi (lv_at hl w hw) (kk p e R s m args below meth c H locs cells slots ls C r h1 h2 hl)
theorem g_iload {E : En} {M : Mt} {pc : Nat} {lv : List (Nat × Value)} {st : List Value} {h : Hp} {k n : Nat} {P : Option Value → Hp → Prop} {X : String → Hp → Prop} {i : Nat} {x : Int32} (hd : decode (mC M) pc = .ok (.iload i, 2)) (w : Nat) (hw : lv[w]? = some (i, .int x))
    (kk : G E M (pc + 2) lv (.int x :: st) h k n P X) : G E M pc lv (st) h k n P X := by
  intro p e R s m args below meth c H locs cells slots ls C r h1 h2 hl
  exact lv_iload C.1 C.2.1 hd (lv_at hl w hw) (kk p e R s m args below meth c H locs cells slots ls C r h1 h2 hl)
theorem g_aload_n {E : En} {M : Mt} {pc : Nat} {lv : List (Nat × Value)} {st : List Value} {h : Hp} {k n : Nat} {P : Option Value → Hp → Prop} {X : String → Hp → Prop} {j : Fin 4} {i : Nat} {x : Nat} (hd : decode (mC M) pc = .ok (.aload_n j, 1)) (hi : (j : Nat) = i) (w : Nat) (hw : lv[w]? = some (i, .ref x))
    (kk : G E M (pc + 1) lv (.ref x :: st) h k n P X) : G E M pc lv (st) h k n P X := by
  intro p e R s m args below meth c H locs cells slots ls C r h1 h2 hl
  exact lv_aload_n C.1 C.2.1 hd hi (lv_at hl w hw) (kk p e R s m args below meth c H locs cells slots ls C r h1 h2 hl)
theorem g_aload {E : En} {M : Mt} {pc : Nat} {lv : List (Nat × Value)} {st : List Value} {h : Hp} {k n : Nat} {P : Option Value → Hp → Prop} {X : String → Hp → Prop} {i : Nat} {x : Nat} (hd : decode (mC M) pc = .ok (.aload i, 2)) (w : Nat) (hw : lv[w]? = some (i, .ref x))
    (kk : G E M (pc + 2) lv (.ref x :: st) h k n P X) : G E M pc lv (st) h k n P X := by
  intro p e R s m args below meth c H locs cells slots ls C r h1 h2 hl
  exact lv_aload C.1 C.2.1 hd (lv_at hl w hw) (kk p e R s m args below meth c H locs cells slots ls C r h1 h2 hl)
theorem g_dload {E : En} {M : Mt} {pc : Nat} {lv : List (Nat × Value)} {st : List Value} {h : Hp} {k n : Nat} {P : Option Value → Hp → Prop} {X : String → Hp → Prop} {i : Nat} {x : UInt64} (hd : decode (mC M) pc = .ok (.dload i, 2)) (w : Nat) (hw : lv[w]? = some (i, .double x))
    (kk : G E M (pc + 2) lv (.double x :: st) h k n P X) : G E M pc lv (st) h k n P X := by
  intro p e R s m args below meth c H locs cells slots ls C r h1 h2 hl
  exact lv_dload C.1 C.2.1 hd (lv_at hl w hw) (kk p e R s m args below meth c H locs cells slots ls C r h1 h2 hl)
theorem g_istore_n {E : En} {M : Mt} {pc : Nat} {lv : List (Nat × Value)} {st : List Value} {h : Hp} {k n : Nat} {P : Option Value → Hp → Prop} {X : String → Hp → Prop} {j : Fin 4} {i : Nat} {x : Int32} {lv' : List (Nat × Value)} (hd : decode (mC M) pc = .ok (.istore_n j, 1)) (hi : (j : Nat) = i) (hn : i < mN M) (hv : (i, Value.int x) :: lv.filter (fun q => !(q.1 == i) && !(q.1 + 1 == i && q.2.category == 2)) = lv')
    (kk : G E M (pc + 1) lv' st h k n P X) : G E M pc lv (.int x :: st) h k n P X := by
  intro p e R s m args below meth c H locs cells slots ls C r h1 h2 hl
  exact lv_istore_n C.1 C.2.1 hd hi hl hn hv (fun ls' hl' => kk p e R s m args below meth c H locs cells slots ls' C r h1 h2 hl')
theorem g_istore {E : En} {M : Mt} {pc : Nat} {lv : List (Nat × Value)} {st : List Value} {h : Hp} {k n : Nat} {P : Option Value → Hp → Prop} {X : String → Hp → Prop} {i : Nat} {x : Int32} {lv' : List (Nat × Value)} (hd : decode (mC M) pc = .ok (.istore i, 2)) (hn : i < mN M) (hv : (i, Value.int x) :: lv.filter (fun q => !(q.1 == i) && !(q.1 + 1 == i && q.2.category == 2)) = lv')
    (kk : G E M (pc + 2) lv' st h k n P X) : G E M pc lv (.int x :: st) h k n P X := by
  intro p e R s m args below meth c H locs cells slots ls C r h1 h2 hl
  exact lv_istore C.1 C.2.1 hd hl hn hv (fun ls' hl' => kk p e R s m args below meth c H locs cells slots ls' C r h1 h2 hl')
theorem g_astore_n {E : En} {M : Mt} {pc : Nat} {lv : List (Nat × Value)} {st : List Value} {h : Hp} {k n : Nat} {P : Option Value → Hp → Prop} {X : String → Hp → Prop} {j : Fin 4} {i : Nat} {x : Nat} {lv' : List (Nat × Value)} (hd : decode (mC M) pc = .ok (.astore_n j, 1)) (hi : (j : Nat) = i) (hn : i < mN M) (hv : (i, Value.ref x) :: lv.filter (fun q => !(q.1 == i) && !(q.1 + 1 == i && q.2.category == 2)) = lv')
    (kk : G E M (pc + 1) lv' st h k n P X) : G E M pc lv (.ref x :: st) h k n P X := by
  intro p e R s m args below meth c H locs cells slots ls C r h1 h2 hl
  exact lv_astore_n C.1 C.2.1 hd hi hl hn hv (fun ls' hl' => kk p e R s m args below meth c H locs cells slots ls' C r h1 h2 hl')
theorem g_astore {E : En} {M : Mt} {pc : Nat} {lv : List (Nat × Value)} {st : List Value} {h : Hp} {k n : Nat} {P : Option Value → Hp → Prop} {X : String → Hp → Prop} {i : Nat} {x : Nat} {lv' : List (Nat × Value)} (hd : decode (mC M) pc = .ok (.astore i, 2)) (hn : i < mN M) (hv : (i, Value.ref x) :: lv.filter (fun q => !(q.1 == i) && !(q.1 + 1 == i && q.2.category == 2)) = lv')
    (kk : G E M (pc + 2) lv' st h k n P X) : G E M pc lv (.ref x :: st) h k n P X := by
  intro p e R s m args below meth c H locs cells slots ls C r h1 h2 hl
  exact lv_astore C.1 C.2.1 hd hl hn hv (fun ls' hl' => kk p e R s m args below meth c H locs cells slots ls' C r h1 h2 hl')
theorem g_dstore {E : En} {M : Mt} {pc : Nat} {lv : List (Nat × Value)} {st : List Value} {h : Hp} {k n : Nat} {P : Option Value → Hp → Prop} {X : String → Hp → Prop} {i : Nat} {x : UInt64} {lv' : List (Nat × Value)} (hd : decode (mC M) pc = .ok (.dstore i, 2)) (hn : i + 1 < mN M) (hv : (i, Value.double x) :: lv.filter (fun q => !(q.1 == i) && (!(q.1 == i + 1) && !(q.1 + 1 == i && q.2.category == 2))) = lv')
    (kk : G E M (pc + 2) lv' st h k n P X) : G E M pc lv (.double x :: st) h k n P X := by
  intro p e R s m args below meth c H locs cells slots ls C r h1 h2 hl
  exact lv_dstore C.1 C.2.1 hd hl hn hv (fun ls' hl' => kk p e R s m args below meth c H locs cells slots ls' C r h1 h2 hl')
theorem g_iinc {E : En} {M : Mt} {pc : Nat} {lv : List (Nat × Value)} {st : List Value} {h : Hp} {k n : Nat} {P : Option Value → Hp → Prop} {X : String → Hp → Prop} {i w : Nat} {z : Int} {x v : Int32} {lv' : List (Nat × Value)} (hd : decode (mC M) pc = .ok (.iinc i z, 3)) (hw : lv[w]? = some (i, .int x)) (hx : x + Int32.ofInt z = v) (hn : i < mN M) (hv : (i, Value.int v) :: lv.filter (fun q => !(q.1 == i) && !(q.1 + 1 == i && q.2.category == 2)) = lv')
    (kk : G E M (pc + 3) lv' st h k n P X) : G E M pc lv st h k n P X := by
  intro p e R s m args below meth c H locs cells slots ls C r h1 h2 hl
  exact lv_iinc C.1 C.2.1 hd hl hw hx hn hv (fun ls' hl' => kk p e R s m args below meth c H locs cells slots ls' C r h1 h2 hl')
theorem g_iadd {E : En} {M : Mt} {pc : Nat} {lv : List (Nat × Value)} {st : List Value} {h : Hp} {k n : Nat} {P : Option Value → Hp → Prop} {X : String → Hp → Prop} {x y : Int32} (hd : decode (mC M) pc = .ok (.iadd, 1)) 
    (kk : G E M (pc + 1) lv (.int (x + y) :: st) h k n P X) : G E M pc lv (.int y :: .int x :: st) h k n P X := by
  intro p e R s m args below meth c H locs cells slots ls C r h1 h2 hl
  exact lv_iadd C.1 C.2.1 hd  (kk p e R s m args below meth c H locs cells slots ls C r h1 h2 hl)
theorem g_isub {E : En} {M : Mt} {pc : Nat} {lv : List (Nat × Value)} {st : List Value} {h : Hp} {k n : Nat} {P : Option Value → Hp → Prop} {X : String → Hp → Prop} {x y : Int32} (hd : decode (mC M) pc = .ok (.isub, 1)) 
    (kk : G E M (pc + 1) lv (.int (x - y) :: st) h k n P X) : G E M pc lv (.int y :: .int x :: st) h k n P X := by
  intro p e R s m args below meth c H locs cells slots ls C r h1 h2 hl
  exact lv_isub C.1 C.2.1 hd  (kk p e R s m args below meth c H locs cells slots ls C r h1 h2 hl)
theorem g_imul {E : En} {M : Mt} {pc : Nat} {lv : List (Nat × Value)} {st : List Value} {h : Hp} {k n : Nat} {P : Option Value → Hp → Prop} {X : String → Hp → Prop} {x y : Int32} (hd : decode (mC M) pc = .ok (.imul, 1)) 
    (kk : G E M (pc + 1) lv (.int (x * y) :: st) h k n P X) : G E M pc lv (.int y :: .int x :: st) h k n P X := by
  intro p e R s m args below meth c H locs cells slots ls C r h1 h2 hl
  exact lv_imul C.1 C.2.1 hd  (kk p e R s m args below meth c H locs cells slots ls C r h1 h2 hl)
theorem g_iand {E : En} {M : Mt} {pc : Nat} {lv : List (Nat × Value)} {st : List Value} {h : Hp} {k n : Nat} {P : Option Value → Hp → Prop} {X : String → Hp → Prop} {x y : Int32} (hd : decode (mC M) pc = .ok (.iand, 1)) 
    (kk : G E M (pc + 1) lv (.int (x &&& y) :: st) h k n P X) : G E M pc lv (.int y :: .int x :: st) h k n P X := by
  intro p e R s m args below meth c H locs cells slots ls C r h1 h2 hl
  exact lv_iand C.1 C.2.1 hd  (kk p e R s m args below meth c H locs cells slots ls C r h1 h2 hl)
theorem g_ishr {E : En} {M : Mt} {pc : Nat} {lv : List (Nat × Value)} {st : List Value} {h : Hp} {k n : Nat} {P : Option Value → Hp → Prop} {X : String → Hp → Prop} {x y : Int32} (hd : decode (mC M) pc = .ok (.ishr, 1)) 
    (kk : G E M (pc + 1) lv (.int (x >>> (y &&& 31)) :: st) h k n P X) : G E M pc lv (.int y :: .int x :: st) h k n P X := by
  intro p e R s m args below meth c H locs cells slots ls C r h1 h2 hl
  exact lv_ishr C.1 C.2.1 hd  (kk p e R s m args below meth c H locs cells slots ls C r h1 h2 hl)
theorem g_idiv {E : En} {M : Mt} {pc : Nat} {lv : List (Nat × Value)} {st : List Value} {h : Hp} {k n : Nat} {P : Option Value → Hp → Prop} {X : String → Hp → Prop} {x y : Int32} (hd : decode (mC M) pc = .ok (.idiv, 1)) (hy : ¬ y = 0)
    (kk : G E M (pc + 1) lv (.int (x / y) :: st) h k n P X) : G E M pc lv (.int y :: .int x :: st) h k n P X := by
  intro p e R s m args below meth c H locs cells slots ls C r h1 h2 hl
  exact lv_idiv C.1 C.2.1 hd hy (kk p e R s m args below meth c H locs cells slots ls C r h1 h2 hl)
theorem g_irem {E : En} {M : Mt} {pc : Nat} {lv : List (Nat × Value)} {st : List Value} {h : Hp} {k n : Nat} {P : Option Value → Hp → Prop} {X : String → Hp → Prop} {x y : Int32} (hd : decode (mC M) pc = .ok (.irem, 1)) (hy : ¬ y = 0)
    (kk : G E M (pc + 1) lv (.int (x - x / y * y) :: st) h k n P X) : G E M pc lv (.int y :: .int x :: st) h k n P X := by
  intro p e R s m args below meth c H locs cells slots ls C r h1 h2 hl
  exact lv_irem C.1 C.2.1 hd hy (kk p e R s m args below meth c H locs cells slots ls C r h1 h2 hl)
theorem g_ineg {E : En} {M : Mt} {pc : Nat} {lv : List (Nat × Value)} {st : List Value} {h : Hp} {k n : Nat} {P : Option Value → Hp → Prop} {X : String → Hp → Prop} {x : Int32} (hd : decode (mC M) pc = .ok (.ineg, 1)) 
    (kk : G E M (pc + 1) lv (.int (-x) :: st) h k n P X) : G E M pc lv (.int x :: st) h k n P X := by
  intro p e R s m args below meth c H locs cells slots ls C r h1 h2 hl
  exact lv_ineg C.1 C.2.1 hd  (kk p e R s m args below meth c H locs cells slots ls C r h1 h2 hl)
theorem g_i2b {E : En} {M : Mt} {pc : Nat} {lv : List (Nat × Value)} {st : List Value} {h : Hp} {k n : Nat} {P : Option Value → Hp → Prop} {X : String → Hp → Prop} {x : Int32} (hd : decode (mC M) pc = .ok (.i2b, 1)) 
    (kk : G E M (pc + 1) lv (.int (x.toInt8.toInt32) :: st) h k n P X) : G E M pc lv (.int x :: st) h k n P X := by
  intro p e R s m args below meth c H locs cells slots ls C r h1 h2 hl
  exact lv_i2b C.1 C.2.1 hd rfl (kk p e R s m args below meth c H locs cells slots ls C r h1 h2 hl)
theorem g_i2l {E : En} {M : Mt} {pc : Nat} {lv : List (Nat × Value)} {st : List Value} {h : Hp} {k n : Nat} {P : Option Value → Hp → Prop} {X : String → Hp → Prop} {x : Int32} (hd : decode (mC M) pc = .ok (.i2l, 1)) 
    (kk : G E M (pc + 1) lv (.long (x.toInt64) :: st) h k n P X) : G E M pc lv (.int x :: st) h k n P X := by
  intro p e R s m args below meth c H locs cells slots ls C r h1 h2 hl
  exact lv_i2l C.1 C.2.1 hd rfl (kk p e R s m args below meth c H locs cells slots ls C r h1 h2 hl)
theorem g_i2d {E : En} {M : Mt} {pc : Nat} {lv : List (Nat × Value)} {st : List Value} {h : Hp} {k n : Nat} {P : Option Value → Hp → Prop} {X : String → Hp → Prop} {x : Int32} (hd : decode (mC M) pc = .ok (.i2d, 1)) 
    (kk : G E M (pc + 1) lv (.double (FP.i2d x) :: st) h k n P X) : G E M pc lv (.int x :: st) h k n P X := by
  intro p e R s m args below meth c H locs cells slots ls C r h1 h2 hl
  exact lv_i2d C.1 C.2.1 hd  (kk p e R s m args below meth c H locs cells slots ls C r h1 h2 hl)
theorem g_i2f {E : En} {M : Mt} {pc : Nat} {lv : List (Nat × Value)} {st : List Value} {h : Hp} {k n : Nat} {P : Option Value → Hp → Prop} {X : String → Hp → Prop} {x : Int32} (hd : decode (mC M) pc = .ok (.i2f, 1)) 
    (kk : G E M (pc + 1) lv (.float (FP.i2f x) :: st) h k n P X) : G E M pc lv (.int x :: st) h k n P X := by
  intro p e R s m args below meth c H locs cells slots ls C r h1 h2 hl
  exact lv_i2f C.1 C.2.1 hd  (kk p e R s m args below meth c H locs cells slots ls C r h1 h2 hl)
theorem g_f2d {E : En} {M : Mt} {pc : Nat} {lv : List (Nat × Value)} {st : List Value} {h : Hp} {k n : Nat} {P : Option Value → Hp → Prop} {X : String → Hp → Prop} {x : UInt32} (hd : decode (mC M) pc = .ok (.f2d, 1)) (hx : vf_n64 (FP.f2d x))
    (kk : G E M (pc + 1) lv (.double (FP.f2d x) :: st) h k n P X) : G E M pc lv (.float x :: st) h k n P X := by
  intro p e R s m args below meth c H locs cells slots ls C r h1 h2 hl
  exact lv_f2d C.1 C.2.1 hd hx (kk p e R s m args below meth c H locs cells slots ls C r h1 h2 hl)
theorem g_ddiv {E : En} {M : Mt} {pc : Nat} {lv : List (Nat × Value)} {st : List Value} {h : Hp} {k n : Nat} {P : Option Value → Hp → Prop} {X : String → Hp → Prop} {x y : UInt64} (hd : decode (mC M) pc = .ok (.ddiv, 1)) (hx : vf_n64 (FP.ddiv x y))
    (kk : G E M (pc + 1) lv (.double (FP.ddiv x y) :: st) h k n P X) : G E M pc lv (.double y :: .double x :: st) h k n P X := by
  intro p e R s m args below meth c H locs cells slots ls C r h1 h2 hl
  exact lv_ddiv C.1 C.2.1 hd hx (kk p e R s m args below meth c H locs cells slots ls C r h1 h2 hl)
theorem g_fdiv {E : En} {M : Mt} {pc : Nat} {lv : List (Nat × Value)} {st : List Value} {h : Hp} {k n : Nat} {P : Option Value → Hp → Prop} {X : String → Hp → Prop} {x y : UInt32} (hd : decode (mC M) pc = .ok (.fdiv, 1)) (hx : vf_n32 (FP.fdiv x y))
    (kk : G E M (pc + 1) lv (.float (FP.fdiv x y) :: st) h k n P X) : G E M pc lv (.float y :: .float x :: st) h k n P X := by
  intro p e R s m args below meth c H locs cells slots ls C r h1 h2 hl
  exact lv_fdiv C.1 C.2.1 hd hx (kk p e R s m args below meth c H locs cells slots ls C r h1 h2 hl)
theorem g_dcmp {E : En} {M : Mt} {pc : Nat} {lv : List (Nat × Value)} {st : List Value} {h : Hp} {k n : Nat} {P : Option Value → Hp → Prop} {X : String → Hp → Prop} {x y : UInt64} {op : CmpOp} (hd : decode (mC M) pc = .ok (.dcmp op, 1)) 
    (kk : G E M (pc + 1) lv (.int (Op.cmpValue (FP.dcmp x y) op) :: st) h k n P X) : G E M pc lv (.double y :: .double x :: st) h k n P X := by
  intro p e R s m args below meth c H locs cells slots ls C r h1 h2 hl
  exact lv_dcmp C.1 C.2.1 hd  (kk p e R s m args below meth c H locs cells slots ls C r h1 h2 hl)
theorem g_lcmp {E : En} {M : Mt} {pc : Nat} {lv : List (Nat × Value)} {st : List Value} {h : Hp} {k n : Nat} {P : Option Value → Hp → Prop} {X : String → Hp → Prop} {x y : Int64} (hd : decode (mC M) pc = .ok (.lcmp, 1)) 
    (kk : G E M (pc + 1) lv (.int (lg_cmp x y) :: st) h k n P X) : G E M pc lv (.long y :: .long x :: st) h k n P X := by
  intro p e R s m args below meth c H locs cells slots ls C r h1 h2 hl
  exact W.lcmp C.1 C.2.1 hd  (kk p e R s m args below meth c H locs cells slots ls C r h1 h2 hl)
theorem g_dup {E : En} {M : Mt} {pc : Nat} {lv : List (Nat × Value)} {st : List Value} {h : Hp} {k n : Nat} {P : Option Value → Hp → Prop} {X : String → Hp → Prop} {v : Value} (hd : decode (mC M) pc = .ok (.dup, 1)) (hv : v.category = 1)
    (kk : G E M (pc + 1) lv (v :: v :: st) h k n P X) : G E M pc lv (v :: st) h k n P X := by
  intro p e R s m args below meth c H locs cells slots ls C r h1 h2 hl
  exact lv_dup C.1 C.2.1 hd hv (kk p e R s m args below meth c H locs cells slots ls C r h1 h2 hl)
theorem g_pop {E : En} {M : Mt} {pc : Nat} {lv : List (Nat × Value)} {st : List Value} {h : Hp} {k n : Nat} {P : Option Value → Hp → Prop} {X : String → Hp → Prop} {v : Value} (hd : decode (mC M) pc = .ok (.pop, 1)) (hv : v.category = 1)
    (kk : G E M (pc + 1) lv (st) h k n P X) : G E M pc lv (v :: st) h k n P X := by
  intro p e R s m args below meth c H locs cells slots ls C r h1 h2 hl
  exact lv_pop C.1 C.2.1 hd hv (kk p e R s m args below meth c H locs cells slots ls C r h1 h2 hl)
theorem g_dup2 {E : En} {M : Mt} {pc : Nat} {lv : List (Nat × Value)} {st : List Value} {h : Hp} {k n : Nat} {P : Option Value → Hp → Prop} {X : String → Hp → Prop} {v w : Value} (hd : decode (mC M) pc = .ok (.dup2, 1)) (hv : v.category = 1) (hw : w.category = 1)
    (kk : G E M (pc + 1) lv (v :: w :: v :: w :: st) h k n P X) : G E M pc lv (v :: w :: st) h k n P X := by
  intro p e R s m args below meth c H locs cells slots ls C r h1 h2 hl
  exact lv_dup2_11 C.1 C.2.1 hd hv hw (kk p e R s m args below meth c H locs cells slots ls C r h1 h2 hl)
theorem g_if_eq {E : En} {M : Mt} {pc : Nat} {lv : List (Nat × Value)} {st : List Value} {h : Hp} {k n : Nat} {P : Option Value → Hp → Prop} {X : String → Hp → Prop} {x : Int32} {off : Int} {tgt : Nat} (hd : decode (mC M) pc = .ok (.ifCond .eq off, 3)) (ht : (pc : Int) + off = (tgt : Int)) (kt : x = 0 → G E M tgt lv st h k n P X) (kf : ¬ x = 0 → G E M (pc + 3) lv st h k n P X) : G E M pc lv (.int x :: st) h k n P X := by
  intro p e R s m args below meth c H locs cells slots ls C r h1 h2 hl
  exact lv_if_eq C.1 C.2.1 hd ht (fun q => kt q p e R s m args below meth c H locs cells slots ls C r h1 h2 hl) (fun q => kf q p e R s m args below meth c H locs cells slots ls C r h1 h2 hl)
theorem g_icmp_eq {E : En} {M : Mt} {pc : Nat} {lv : List (Nat × Value)} {st : List Value} {h : Hp} {k n : Nat} {P : Option Value → Hp → Prop} {X : String → Hp → Prop} {x y : Int32} {off : Int} {tgt : Nat} (hd : decode (mC M) pc = .ok (.if_icmp .eq off, 3)) (ht : (pc : Int) + off = (tgt : Int)) (kt : x = y → G E M tgt lv st h k n P X) (kf : ¬ x = y → G E M (pc + 3) lv st h k n P X) : G E M pc lv (.int y :: .int x :: st) h k n P X := by
  intro p e R s m args below meth c H locs cells slots ls C r h1 h2 hl
  exact lv_icmp_eq C.1 C.2.1 hd ht (fun q => kt q p e R s m args below meth c H locs cells slots ls C r h1 h2 hl) (fun q => kf q p e R s m args below meth c H locs cells slots ls C r h1 h2 hl)
theorem g_if_ne {E : En} {M : Mt} {pc : Nat} {lv : List (Nat × Value)} {st : List Value} {h : Hp} {k n : Nat} {P : Option Value → Hp → Prop} {X : String → Hp → Prop} {x : Int32} {off : Int} {tgt : Nat} (hd : decode (mC M) pc = .ok (.ifCond .ne off, 3)) (ht : (pc : Int) + off = (tgt : Int)) (kt : ¬ x = 0 → G E M tgt lv st h k n P X) (kf : x = 0 → G E M (pc + 3) lv st h k n P X) : G E M pc lv (.int x :: st) h k n P X := by
  intro p e R s m args below meth c H locs cells slots ls C r h1 h2 hl
  exact lv_if_ne C.1 C.2.1 hd ht (fun q => kt q p e R s m args below meth c H locs cells slots ls C r h1 h2 hl) (fun q => kf q p e R s m args below meth c H locs cells slots ls C r h1 h2 hl)
theorem g_icmp_ne {E : En} {M : Mt} {pc : Nat} {lv : List (Nat × Value)} {st : List Value} {h : Hp} {k n : Nat} {P : Option Value → Hp → Prop} {X : String → Hp → Prop} {x y : Int32} {off : Int} {tgt : Nat} (hd : decode (mC M) pc = .ok (.if_icmp .ne off, 3)) (ht : (pc : Int) + off = (tgt : Int)) (kt : ¬ x = y → G E M tgt lv st h k n P X) (kf : x = y → G E M (pc + 3) lv st h k n P X) : G E M pc lv (.int y :: .int x :: st) h k n P X := by
  intro p e R s m args below meth c H locs cells slots ls C r h1 h2 hl
  exact lv_icmp_ne C.1 C.2.1 hd ht (fun q => kt q p e R s m args below meth c H locs cells slots ls C r h1 h2 hl) (fun q => kf q p e R s m args below meth c H locs cells slots ls C r h1 h2 hl)
theorem g_if_lt {E : En} {M : Mt} {pc : Nat} {lv : List (Nat × Value)} {st : List Value} {h : Hp} {k n : Nat} {P : Option Value → Hp → Prop} {X : String → Hp → Prop} {x : Int32} {off : Int} {tgt : Nat} (hd : decode (mC M) pc = .ok (.ifCond .lt off, 3)) (ht : (pc : Int) + off = (tgt : Int)) (kt : x < 0 → G E M tgt lv st h k n P X) (kf : ¬ x < 0 → G E M (pc + 3) lv st h k n P X) : G E M pc lv (.int x :: st) h k n P X := by
  intro p e R s m args below meth c H locs cells slots ls C r h1 h2 hl
  exact lv_if_lt C.1 C.2.1 hd ht (fun q => kt q p e R s m args below meth c H locs cells slots ls C r h1 h2 hl) (fun q => kf q p e R s m args below meth c H locs cells slots ls C r h1 h2 hl)
theorem g_icmp_lt {E : En} {M : Mt} {pc : Nat} {lv : List (Nat × Value)} {st : List Value} {h : Hp} {k n : Nat} {P : Option Value → Hp → Prop} {X : String → Hp → Prop} {x y : Int32} {off : Int} {tgt : Nat} (hd : decode (mC M) pc = .ok (.if_icmp .lt off, 3)) (ht : (pc : Int) + off = (tgt : Int)) (kt : x < y → G E M tgt lv st h k n P X) (kf : ¬ x < y → G E M (pc + 3) lv st h k n P X) : G E M pc lv (.int y :: .int x :: st) h k n P X := by
  intro p e R s m args below meth c H locs cells slots ls C r h1 h2 hl
  exact lv_icmp_lt C.1 C.2.1 hd ht (fun q => kt q p e R s m args below meth c H locs cells slots ls C r h1 h2 hl) (fun q => kf q p e R s m args below meth c H locs cells slots ls C r h1 h2 hl)
theorem g_if_ge {E : En} {M : Mt} {pc : Nat} {lv : List (Nat × Value)} {st : List Value} {h : Hp} {k n : Nat} {P : Option Value → Hp → Prop} {X : String → Hp → Prop} {x : Int32} {off : Int} {tgt : Nat} (hd : decode (mC M) pc = .ok (.ifCond .ge off, 3)) (ht : (pc : Int) + off = (tgt : Int)) (kt : 0 ≤ x → G E M tgt lv st h k n P X) (kf : ¬ 0 ≤ x → G E M (pc + 3) lv st h k n P X) : G E M pc lv (.int x :: st) h k n P X := by
  intro p e R s m args below meth c H locs cells slots ls C r h1 h2 hl
  exact lv_if_ge C.1 C.2.1 hd ht (fun q => kt q p e R s m args below meth c H locs cells slots ls C r h1 h2 hl) (fun q => kf q p e R s m args below meth c H locs cells slots ls C r h1 h2 hl)
theorem g_icmp_ge {E : En} {M : Mt} {pc : Nat} {lv : List (Nat × Value)} {st : List Value} {h : Hp} {k n : Nat} {P : Option Value → Hp → Prop} {X : String → Hp → Prop} {x y : Int32} {off : Int} {tgt : Nat} (hd : decode (mC M) pc = .ok (.if_icmp .ge off, 3)) (ht : (pc : Int) + off = (tgt : Int)) (kt : y ≤ x → G E M tgt lv st h k n P X) (kf : ¬ y ≤ x → G E M (pc + 3) lv st h k n P X) : G E M pc lv (.int y :: .int x :: st) h k n P X := by
  intro p e R s m args below meth c H locs cells slots ls C r h1 h2 hl
  exact lv_icmp_ge C.1 C.2.1 hd ht (fun q => kt q p e R s m args below meth c H locs cells slots ls C r h1 h2 hl) (fun q => kf q p e R s m args below meth c H locs cells slots ls C r h1 h2 hl)
theorem g_if_gt {E : En} {M : Mt} {pc : Nat} {lv : List (Nat × Value)} {st : List Value} {h : Hp} {k n : Nat} {P : Option Value → Hp → Prop} {X : String → Hp → Prop} {x : Int32} {off : Int} {tgt : Nat} (hd : decode (mC M) pc = .ok (.ifCond .gt off, 3)) (ht : (pc : Int) + off = (tgt : Int)) (kt : 0 < x → G E M tgt lv st h k n P X) (kf : ¬ 0 < x → G E M (pc + 3) lv st h k n P X) : G E M pc lv (.int x :: st) h k n P X := by
  intro p e R s m args below meth c H locs cells slots ls C r h1 h2 hl
  exact lv_if_gt C.1 C.2.1 hd ht (fun q => kt q p e R s m args below meth c H locs cells slots ls C r h1 h2 hl) (fun q => kf q p e R s m args below meth c H locs cells slots ls C r h1 h2 hl)
theorem g_icmp_gt {E : En} {M : Mt} {pc : Nat} {lv : List (Nat × Value)} {st : List Value} {h : Hp} {k n : Nat} {P : Option Value → Hp → Prop} {X : String → Hp → Prop} {x y : Int32} {off : Int} {tgt : Nat} (hd : decode (mC M) pc = .ok (.if_icmp .gt off, 3)) (ht : (pc : Int) + off = (tgt : Int)) (kt : y < x → G E M tgt lv st h k n P X) (kf : ¬ y < x → G E M (pc + 3) lv st h k n P X) : G E M pc lv (.int y :: .int x :: st) h k n P X := by
  intro p e R s m args below meth c H locs cells slots ls C r h1 h2 hl
  exact lv_icmp_gt C.1 C.2.1 hd ht (fun q => kt q p e R s m args below meth c H locs cells slots ls C r h1 h2 hl) (fun q => kf q p e R s m args below meth c H locs cells slots ls C r h1 h2 hl)
theorem g_if_le {E : En} {M : Mt} {pc : Nat} {lv : List (Nat × Value)} {st : List Value} {h : Hp} {k n : Nat} {P : Option Value → Hp → Prop} {X : String → Hp → Prop} {x : Int32} {off : Int} {tgt : Nat} (hd : decode (mC M) pc = .ok (.ifCond .le off, 3)) (ht : (pc : Int) + off = (tgt : Int)) (kt : x ≤ 0 → G E M tgt lv st h k n P X) (kf : ¬ x ≤ 0 → G E M (pc + 3) lv st h k n P X) : G E M pc lv (.int x :: st) h k n P X := by
  intro p e R s m args below meth c H locs cells slots ls C r h1 h2 hl
  exact lv_if_le C.1 C.2.1 hd ht (fun q => kt q p e R s m args below meth c H locs cells slots ls C r h1 h2 hl) (fun q => kf q p e R s m args below meth c H locs cells slots ls C r h1 h2 hl)
theorem g_icmp_le {E : En} {M : Mt} {pc : Nat} {lv : List (Nat × Value)} {st : List Value} {h : Hp} {k n : Nat} {P : Option Value → Hp → Prop} {X : String → Hp → Prop} {x y : Int32} {off : Int} {tgt : Nat} (hd : decode (mC M) pc = .ok (.if_icmp .le off, 3)) (ht : (pc : Int) + off = (tgt : Int)) (kt : x ≤ y → G E M tgt lv st h k n P X) (kf : ¬ x ≤ y → G E M (pc + 3) lv st h k n P X) : G E M pc lv (.int y :: .int x :: st) h k n P X := by
  intro p e R s m args below meth c H locs cells slots ls C r h1 h2 hl
  exact lv_icmp_le C.1 C.2.1 hd ht (fun q => kt q p e R s m args below meth c H locs cells slots ls C r h1 h2 hl) (fun q => kf q p e R s m args below meth c H locs cells slots ls C r h1 h2 hl)
theorem g_goto {E : En} {M : Mt} {pc : Nat} {lv : List (Nat × Value)} {st : List Value} {h : Hp} {k n : Nat} {P : Option Value → Hp → Prop} {X : String → Hp → Prop} {off : Int} {tgt : Nat} (hd : decode (mC M) pc = .ok (.goto off, 3)) (ht : (pc : Int) + off = (tgt : Int)) (kk : G E M tgt lv st h k n P X) : G E M pc lv st h k n P X := by
  intro p e R s m args below meth c H locs cells slots ls C r h1 h2 hl
  exact lv_goto C.1 C.2.1 hd ht (kk p e R s m args below meth c H locs cells slots ls C r h1 h2 hl)
theorem g_ifnonnull {E : En} {M : Mt} {pc : Nat} {lv : List (Nat × Value)} {st : List Value} {h : Hp} {k n : Nat} {P : Option Value → Hp → Prop} {X : String → Hp → Prop} {x : Nat} {off : Int} {tgt : Nat} (hd : decode (mC M) pc = .ok (.ifnonnull off, 3)) (ht : (pc : Int) + off = (tgt : Int)) (kk : G E M tgt lv st h k n P X) : G E M pc lv (.ref x :: st) h k n P X := by
  intro p e R s m args below meth c H locs cells slots ls C r h1 h2 hl
  exact lv_ifnonnull C.1 C.2.1 hd ht (kk p e R s m args below meth c H locs cells slots ls C r h1 h2 hl)
theorem g_ifnonnullN {E : En} {M : Mt} {pc : Nat} {lv : List (Nat × Value)} {st : List Value} {h : Hp} {k n : Nat} {P : Option Value → Hp → Prop} {X : String → Hp → Prop} {off : Int} (hd : decode (mC M) pc = .ok (.ifnonnull off, 3)) (kk : G E M (pc + 3) lv st h k n P X) : G E M pc lv (.null :: st) h k n P X := by
  intro p e R s m args below meth c H locs cells slots ls C r h1 h2 hl
  exact lv_ifnonnullN C.1 C.2.1 hd (kk p e R s m args below meth c H locs cells slots ls C r h1 h2 hl)
theorem g_tableIn {E : En} {M : Mt} {pc : Nat} {lv : List (Nat × Value)} {st : List Value} {h : Hp} {k n : Nat} {P : Option Value → Hp → Prop} {X : String → Hp → Prop} {dflt lo hi : Int} {offs : Array Int} {len : Nat} {x : Int32} {off : Int} {tgt : Nat} (hd : decode (mC M) pc = .ok (.tableswitch dflt lo hi offs, len)) (h3 : ¬ x.toInt < lo) (h4 : ¬ hi < x.toInt) (ho : offs[(x.toInt - lo).toNat]? = some off) (ht : (pc : Int) + off = (tgt : Int)) (kk : G E M tgt lv st h k n P X) : G E M pc lv (.int x :: st) h k n P X := by
  intro p e R s m args below meth c H locs cells slots ls C r h1 h2 hl
  exact lv_tableIn C.1 C.2.1 hd h3 h4 ho ht (kk p e R s m args below meth c H locs cells slots ls C r h1 h2 hl)
theorem g_tableOut {E : En} {M : Mt} {pc : Nat} {lv : List (Nat × Value)} {st : List Value} {h : Hp} {k n : Nat} {P : Option Value → Hp → Prop} {X : String → Hp → Prop} {dflt lo hi : Int} {offs : Array Int} {len : Nat} {x : Int32} {tgt : Nat} (hd : decode (mC M) pc = .ok (.tableswitch dflt lo hi offs, len)) (hx : x.toInt < lo ∨ hi < x.toInt) (ht : (pc : Int) + dflt = (tgt : Int)) (kk : G E M tgt lv st h k n P X) : G E M pc lv (.int x :: st) h k n P X := by
  intro p e R s m args below meth c H locs cells slots ls C r h1 h2 hl
  exact lv_tableOut C.1 C.2.1 hd hx ht (kk p e R s m args below meth c H locs cells slots ls C r h1 h2 hl)
theorem g_lookup {E : En} {M : Mt} {pc : Nat} {lv : List (Nat × Value)} {st : List Value} {h : Hp} {k n : Nat} {P : Option Value → Hp → Prop} {X : String → Hp → Prop} {dflt : Int} {ps : Array (Int × Int)} {len : Nat} {x : Int32} {off : Int} {tgt : Nat} (hd : decode (mC M) pc = .ok (.lookupswitch dflt ps, len)) (hp : (ps.toList.zip (ps.toList.drop 1)).all (fun (a, next) => a.1 < next.1) = true) (ho : Op.lookupswitch.offset ps.toList dflt x.toInt = off) (ht : (pc : Int) + off = (tgt : Int)) (kk : G E M tgt lv st h k n P X) : G E M pc lv (.int x :: st) h k n P X := by
  intro p e R s m args below meth c H locs cells slots ls C r h1 h2 hl
  exact lv_lookup C.1 C.2.1 hd hp ho ht (kk p e R s m args below meth c H locs cells slots ls C r h1 h2 hl)
theorem Cx.hts {E : En} {M : Mt} {p : Program} {R : Room} {s : State} {m : MethodId} {args : Array Value} {meth : Method} {c : Code} {H : Heap} {locs : List Loc} (C : Cx E M p R s m args meth c H locs) : ∀ w ∈ tG, w.before args s = true := C.2.2.2.2.1
theorem Cx.hK {E : En} {M : Mt} {p : Program} {R : Room} {s : State} {m : MethodId} {args : Array Value} {meth : Method} {c : Code} {H : Heap} {locs : List Loc} (C : Cx E M p R s m args meth c H locs) : va_K (eD E) cls [] s := C.2.2.2.2.2.2.2.2.2.1
theorem Cx.hS {E : En} {M : Mt} {p : Program} {R : Room} {s : State} {m : MethodId} {args : Array Value} {meth : Method} {c : Code} {H : Heap} {locs : List Loc} (C : Cx E M p R s m args meth c H locs) : va_S (gA E) s.heap H locs := C.2.2.2.2.2.2.2.2.2.2.2.2.2.2
theorem Cx.cst {E : En} {M : Mt} {p : Program} {R : Room} {s : State} {m : MethodId} {args : Array Value} {meth : Method} {c : Code} {H : Heap} {locs : List Loc} (C : Cx E M p R s m args meth c H locs) : Cst E s s.heap := C.2.2.2.2.2.2.2.2.2.2.1
theorem Cx.hB {E : En} {M : Mt} {p : Program} {R : Room} {s : State} {m : MethodId} {args : Array Value} {meth : Method} {c : Code} {H : Heap} {locs : List Loc} (C : Cx E M p R s m args meth c H locs) : eB E ≤ s.heap.size := C.2.2.2.2.2.2.2.2.2.2.2.1
/-- the same walk over another heap -/
theorem Cx.to {E : En} {M : Mt} {p : Program} {R : Room} {s : State} {m : MethodId} {args : Array Value} {meth : Method} {c : Code} {H H1 : Heap} {locs locs1 : List Loc} (C : Cx E M p R s m args meth c H locs) (hS : va_S (gA E) s.heap H1 locs1) : Cx E M p R s m args meth c H1 locs1 := by
  obtain ⟨q1, q2, q3, q4, q5, q6, q7, q8, q9, q10, q11, q12, q13, q14, -⟩ := C
  exact ⟨q1, q2, q3, q4, q5, q6, q7, q8, q9, q10, q11, q12, q13, q14, hS⟩
theorem g_ldci {E : En} {M : Mt} {pc : Nat} {lv : List (Nat × Value)} {st : List Value} {h : Hp} {k n : Nat} {P : Option Value → Hp → Prop} {X : String → Hp → Prop} {idx : Nat} {v : Int32} (hd : decode (mC M) pc = .ok (.ldc idx, 2)) (hw : Cond.constant (mY M).cls idx v ∈ tG) (kk : G E M (pc + 2) lv (.int v :: st) h k n P X) : G E M pc lv st h k n P X := by
  intro p e R s m args below meth c H locs cells slots ls C r h1 h2 hl
  exact lv_ldc C.1 C.2.1 C.2.2.2.1 (C.hts _ hw) hd (kk p e R s m args below meth c H locs cells slots ls C r h1 h2 hl)
theorem g_ldcwi {E : En} {M : Mt} {pc : Nat} {lv : List (Nat × Value)} {st : List Value} {h : Hp} {k n : Nat} {P : Option Value → Hp → Prop} {X : String → Hp → Prop} {idx : Nat} {v : Int32} (hd : decode (mC M) pc = .ok (.ldc_w idx, 3)) (hw : Cond.constant (mY M).cls idx v ∈ tG) (kk : G E M (pc + 3) lv (.int v :: st) h k n P X) : G E M pc lv st h k n P X := by
  intro p e R s m args below meth c H locs cells slots ls C r h1 h2 hl
  exact lv_ldcw C.1 C.2.1 C.2.2.2.1 (C.hts _ hw) hd (kk p e R s m args below meth c H locs cells slots ls C r h1 h2 hl)
theorem g_ldcs {E : En} {M : Mt} {pc : Nat} {lv : List (Nat × Value)} {st : List Value} {h : Hp} {k n : Nat} {P : Option Value → Hp → Prop} {X : String → Hp → Prop} {idx j : Nat} {tx : String} (hd : decode (mC M) pc = .ok (.ldc idx, 2)) (w : Nat) (hw : strT[w]? = some ((mY M).cls, idx, tx, j)) (kk : G E M (pc + 2) lv (.ref (eS E j) :: st) h k n P X) : G E M pc lv st h k n P X := by
  intro p e R s m args below meth c H locs cells slots ls C r h1 h2 hl
  exact va_ldcS C.1 C.2.1 C.2.2.2.1 (C.cst.2.2.2.1 _ (List.mem_of_getElem? hw)) hd (kk p e R s m args below meth c H locs cells slots ls C r h1 h2 hl)
theorem g_getI {E : En} {M : Mt} {pc : Nat} {lv : List (Nat × Value)} {st : List Value} {h : Hp} {k n : Nat} {P : Option Value → Hp → Prop} {X : String → Hp → Prop} {a idx ci f : Nat} (hr : cRf ci f = false) (hd : decode (mC M) pc = .ok (.getfield idx, 3)) (hf : FLk (mY M).cls idx ci f) (hci : ci < 19) (hk : hK h a = ci + 1)
    (kk : G E M (pc + 3) lv (.int (hI h a f) :: st) h k n P X) : G E M pc lv (.ref a :: st) h k n P X := by
  intro p e R s m args below meth c H locs cells slots ls C r h1 h2 hl
  obtain ⟨q, hq, hkn, hlk⟩ := hf
  obtain ⟨o1, o2, o3, o4, o5⟩ := cls_ok ci q hq
  refine va_get (D := eD E) (cl := cls) (ci := ci) (C := q.1) (T := q.2.1) (N := q.2.2) (tys := []) (v := .int (hI h a f)) C.1 C.2.1 C.hts o1 C.2.2.2.1 C.hK (one_P (r.obj hk hci)) 0 rfl hq f hkn (C.hts _ hlk) (fun _ z => z) ?_ hd (kk p e R s m args below meth c H locs cells slots ls C r h1 h2 hl)
  rw [flds_get (by omega), hr]
  rfl
theorem g_getR {E : En} {M : Mt} {pc : Nat} {lv : List (Nat × Value)} {st : List Value} {h : Hp} {k n : Nat} {P : Option Value → Hp → Prop} {X : String → Hp → Prop} {a idx ci f : Nat} {b : Nat} (hr : cRf ci f = true) (hb : hR h a f = some b) (hd : decode (mC M) pc = .ok (.getfield idx, 3)) (hf : FLk (mY M).cls idx ci f) (hci : ci < 19) (hk : hK h a = ci + 1)
    (kk : G E M (pc + 3) lv (.ref b :: st) h k n P X) : G E M pc lv (.ref a :: st) h k n P X := by
  intro p e R s m args below meth c H locs cells slots ls C r h1 h2 hl
  obtain ⟨q, hq, hkn, hlk⟩ := hf
  obtain ⟨o1, o2, o3, o4, o5⟩ := cls_ok ci q hq
  refine va_get (D := eD E) (cl := cls) (ci := ci) (C := q.1) (T := q.2.1) (N := q.2.2) (tys := []) (v := .ref b) C.1 C.2.1 C.hts o1 C.2.2.2.1 C.hK (one_P (r.obj hk hci)) 0 rfl hq f hkn (C.hts _ hlk) (fun _ z => z) ?_ hd (kk p e R s m args below meth c H locs cells slots ls C r h1 h2 hl)
  rw [flds_get (by omega), hr]
  simp [hb, va_rf]
theorem g_putI {E : En} {M : Mt} {pc : Nat} {lv : List (Nat × Value)} {st : List Value} {h : Hp} {k n : Nat} {P : Option Value → Hp → Prop} {X : String → Hp → Prop} {a idx ci f : Nat} {v : Int32} (hr : cRf ci f = false) (hd : decode (mC M) pc = .ok (.putfield idx, 3)) (hf : FLk (mY M).cls idx ci f) (hfin : ∀ q, cls[ci]? = some q → (q.2.1 f).2.2.2 = false) (hn : narrow (cTy ci f) (.int v) = .int v) (hfit : fits (cTy ci f) (.int v) = true) (hci : ci < 19) (hk : hK h a = ci + 1)
    (kk : G E M (pc + 3) lv st (sI h a f v) k n P X) : G E M pc lv (.int v :: .ref a :: st) h k n P X := by
  intro p e R s m args below meth c H locs cells slots ls C r h1 h2 hl
  obtain ⟨q, hq, hkn, hlk⟩ := hf
  obtain ⟨o1, o2, o3, o4, o5⟩ := cls_ok ci q hq
  obtain ⟨r', q1', cell, q1, q2, q3, q4⟩ := r.obj hk hci
  have hr' : r' = q := Option.some.inj (q1'.symm.trans hq)
  subst hr'
  obtain ⟨hS, hfc, kC, hkC, hkind⟩ := C.hK.1 ci _ hq
  have hap : ∀ x y, x < r'.2.2 → y < r'.2.2 → x ≠ y → (eD E).2 ci x ≠ (eD E).2 ci y := va_apart (own := (mY M).cls) C.hts o1 (cTy ci) o2 o3 C.hK hq
  obtain ⟨cf, kf, fi, fd, hi, hsl⟩ := hS f hkn
  have hlay := C.hts _ (o1 _ (u_in_lay hkn))
  unfold u_lay at hlay
  rw [if_neg (by rw [hfin _ hq]; decide)] at hlay
  have h6 := u_store hfc hkC hkind hlay hi (o2 f hkn) hn hfit
  refine W.putK C.1 C.2.1 (f := fd) ⟨C.2.2.2.1, C.hts _ hlk, ⟨_, _, _, hi⟩, (u_facts hfc hkC (u_lays C.hts o1 hkn) hi).1⟩ (by rw [q2]; exact h6) q1 q3 (by rw [hsl]; exact k2_hasslot (q4 f hkn)) rfl rfl hd fun H' e1 e2 e3 => ?_
  · rw [hsl] at e1
    refine kk p e R s m args below meth c H' _ cells slots ls (C.to (C.hS.put e2 e3 (r a (by omega)).1)) (r.upd (fun x hx => same_sI hx) e3 (r a (by omega)).1 (Or.inl ⟨by show hK h a < 20; omega, ?_⟩)) h1 h2 hl
    have e9 : hK (sI h a f v) a - 1 = ci := by show hK h a - 1 = ci; omega
    rw [e9, flds_sI hr]
    exact ⟨_, hq, t_OB.to (V := updV (vp_V (flds h a ci)) f (Value.int v)) ⟨_, e1, q2, q3, t_set q4 hap hkn _⟩ (fun j _ => vp_updV_set (by rw [flds_len]; omega) _ j)⟩
theorem g_putFI {E : En} {M : Mt} {pc : Nat} {lv : List (Nat × Value)} {st : List Value} {h : Hp} {k n : Nat} {P : Option Value → Hp → Prop} {X : String → Hp → Prop} {a idx ci f : Nat} {v : Int32} (hr : cRf ci f = false) (hd : decode (mC M) pc = .ok (.putfield idx, 3)) (hf : FLk (mY M).cls idx ci f) (hfin : ∀ q, cls[ci]? = some q → (q.2.1 f).2.2.2 = true ∧ (q.2.1 f).1 = (mY M).cls) (hinit : (mY M).name = "<init>") (hn : narrow (cTy ci f) (.int v) = .int v) (hfit : fits (cTy ci f) (.int v) = true) (hci : ci < 19) (hk : hK h a = ci + 1)
    (kk : G E M (pc + 3) lv st (sI h a f v) k n P X) : G E M pc lv (.int v :: .ref a :: st) h k n P X := by
  intro p e R s m args below meth c H locs cells slots ls C r h1 h2 hl
  obtain ⟨q, hq, hkn, hlk⟩ := hf
  obtain ⟨o1, o2, o3, o4, o5⟩ := cls_ok ci q hq
  obtain ⟨r', q1', cell, q1, q2, q3, q4⟩ := r.obj hk hci
  have hr' : r' = q := Option.some.inj (q1'.symm.trans hq)
  subst hr'
  obtain ⟨hS, hfc, kC, hkC, hkind⟩ := C.hK.1 ci _ hq
  have hap : ∀ x y, x < r'.2.2 → y < r'.2.2 → x ≠ y → (eD E).2 ci x ≠ (eD E).2 ci y := va_apart (own := (mY M).cls) C.hts o1 (cTy ci) o2 o3 C.hK hq
  obtain ⟨cf, kf, fi, fd, hi, hsl⟩ := hS f hkn
  have hlay := C.hts _ (o1 _ (u_in_lay hkn))
  unfold u_lay at hlay
  rw [if_pos (hfin _ hq).1] at hlay
  have va_cf : m.cls = cf := by
    obtain ⟨_, _, c', _, _, _, -, -, hf', -, -, -, hown2, -⟩ := Cond.laysFinal_spec hlay
    have e1 : c' = cf := by have := hi.symm.trans hf'; simp at this; exact this.1.symm
    rw [(hfin _ hq).2] at hown2
    rw [← e1]; exact Option.some.inj (C.2.2.2.1.symm.trans hown2)
  have h6 := u_fits hfc hkC hkind (Or.inr hlay) hi (o2 f hkn) hn hfit
  refine W.putFinK C.1 C.2.1 C.2.2.2.1 (C.hts _ hlk) hi (u_facts hfc hkC (u_lays C.hts o1 hkn) hi).1 (va_cf) (C.2.2.2.2.2.2.2.1.trans hinit) (by rw [q2]; exact h6) q1 q3 (by rw [hsl]; exact k2_hasslot (q4 f hkn)) rfl rfl hd fun H' e1 e2 e3 => ?_
  · rw [hsl] at e1
    refine kk p e R s m args below meth c H' _ cells slots ls (C.to (C.hS.put e2 e3 (r a (by omega)).1)) (r.upd (fun x hx => same_sI hx) e3 (r a (by omega)).1 (Or.inl ⟨by show hK h a < 20; omega, ?_⟩)) h1 h2 hl
    have e9 : hK (sI h a f v) a - 1 = ci := by show hK h a - 1 = ci; omega
    rw [e9, flds_sI hr]
    exact ⟨_, hq, t_OB.to (V := updV (vp_V (flds h a ci)) f (Value.int v)) ⟨_, e1, q2, q3, t_set q4 hap hkn _⟩ (fun j _ => vp_updV_set (by rw [flds_len]; omega) _ j)⟩
theorem g_putR {E : En} {M : Mt} {pc : Nat} {lv : List (Nat × Value)} {st : List Value} {h : Hp} {k n : Nat} {P : Option Value → Hp → Prop} {X : String → Hp → Prop} {a idx ci f : Nat} {b : Nat} (hr : cRf ci f = true) (hd : decode (mC M) pc = .ok (.putfield idx, 3)) (hf : FLk (mY M).cls idx ci f) (hfin : ∀ q, cls[ci]? = some q → (q.2.1 f).2.2.2 = false) (hn : narrow (cTy ci f) (.ref b) = .ref b) (hfit : fits (cTy ci f) (.ref b) = true) (hci : ci < 19) (hk : hK h a = ci + 1)
    (kk : G E M (pc + 3) lv st (sR h a f (some b)) k n P X) : G E M pc lv (.ref b :: .ref a :: st) h k n P X := by
  intro p e R s m args below meth c H locs cells slots ls C r h1 h2 hl
  obtain ⟨q, hq, hkn, hlk⟩ := hf
  obtain ⟨o1, o2, o3, o4, o5⟩ := cls_ok ci q hq
  obtain ⟨r', q1', cell, q1, q2, q3, q4⟩ := r.obj hk hci
  have hr' : r' = q := Option.some.inj (q1'.symm.trans hq)
  subst hr'
  obtain ⟨hS, hfc, kC, hkC, hkind⟩ := C.hK.1 ci _ hq
  have hap : ∀ x y, x < r'.2.2 → y < r'.2.2 → x ≠ y → (eD E).2 ci x ≠ (eD E).2 ci y := va_apart (own := (mY M).cls) C.hts o1 (cTy ci) o2 o3 C.hK hq
  obtain ⟨cf, kf, fi, fd, hi, hsl⟩ := hS f hkn
  have hlay := C.hts _ (o1 _ (u_in_lay hkn))
  unfold u_lay at hlay
  rw [if_neg (by rw [hfin _ hq]; decide)] at hlay
  have h6 := u_store hfc hkC hkind hlay hi (o2 f hkn) hn hfit
  refine W.putK C.1 C.2.1 (f := fd) ⟨C.2.2.2.1, C.hts _ hlk, ⟨_, _, _, hi⟩, (u_facts hfc hkC (u_lays C.hts o1 hkn) hi).1⟩ (by rw [q2]; exact h6) q1 q3 (by rw [hsl]; exact k2_hasslot (q4 f hkn)) rfl rfl hd fun H' e1 e2 e3 => ?_
  · rw [hsl] at e1
    refine kk p e R s m args below meth c H' _ cells slots ls (C.to (C.hS.put e2 e3 (r a (by omega)).1)) (r.upd (fun x hx => same_sR hx) e3 (r a (by omega)).1 (Or.inl ⟨by show hK h a < 20; omega, ?_⟩)) h1 h2 hl
    have e9 : hK (sR h a f (some b)) a - 1 = ci := by show hK h a - 1 = ci; omega
    rw [e9, flds_sR hr]
    exact ⟨_, hq, t_OB.to (V := updV (vp_V (flds h a ci)) f (Value.ref b)) ⟨_, e1, q2, q3, t_set q4 hap hkn _⟩ (fun j _ => vp_updV_set (by rw [flds_len]; omega) _ j)⟩
theorem g_putFR {E : En} {M : Mt} {pc : Nat} {lv : List (Nat × Value)} {st : List Value} {h : Hp} {k n : Nat} {P : Option Value → Hp → Prop} {X : String → Hp → Prop} {a idx ci f : Nat} {b : Nat} (hr : cRf ci f = true) (hd : decode (mC M) pc = .ok (.putfield idx, 3)) (hf : FLk (mY M).cls idx ci f) (hfin : ∀ q, cls[ci]? = some q → (q.2.1 f).2.2.2 = true ∧ (q.2.1 f).1 = (mY M).cls) (hinit : (mY M).name = "<init>") (hn : narrow (cTy ci f) (.ref b) = .ref b) (hfit : fits (cTy ci f) (.ref b) = true) (hci : ci < 19) (hk : hK h a = ci + 1)
    (kk : G E M (pc + 3) lv st (sR h a f (some b)) k n P X) : G E M pc lv (.ref b :: .ref a :: st) h k n P X := by
  intro p e R s m args below meth c H locs cells slots ls C r h1 h2 hl
  obtain ⟨q, hq, hkn, hlk⟩ := hf
  obtain ⟨o1, o2, o3, o4, o5⟩ := cls_ok ci q hq
  obtain ⟨r', q1', cell, q1, q2, q3, q4⟩ := r.obj hk hci
  have hr' : r' = q := Option.some.inj (q1'.symm.trans hq)
  subst hr'
  obtain ⟨hS, hfc, kC, hkC, hkind⟩ := C.hK.1 ci _ hq
  have hap : ∀ x y, x < r'.2.2 → y < r'.2.2 → x ≠ y → (eD E).2 ci x ≠ (eD E).2 ci y := va_apart (own := (mY M).cls) C.hts o1 (cTy ci) o2 o3 C.hK hq
  obtain ⟨cf, kf, fi, fd, hi, hsl⟩ := hS f hkn
  have hlay := C.hts _ (o1 _ (u_in_lay hkn))
  unfold u_lay at hlay
  rw [if_pos (hfin _ hq).1] at hlay
  have va_cf : m.cls = cf := by
    obtain ⟨_, _, c', _, _, _, -, -, hf', -, -, -, hown2, -⟩ := Cond.laysFinal_spec hlay
    have e1 : c' = cf := by have := hi.symm.trans hf'; simp at this; exact this.1.symm
    rw [(hfin _ hq).2] at hown2
    rw [← e1]; exact Option.some.inj (C.2.2.2.1.symm.trans hown2)
  have h6 := u_fits hfc hkC hkind (Or.inr hlay) hi (o2 f hkn) hn hfit
  refine W.putFinK C.1 C.2.1 C.2.2.2.1 (C.hts _ hlk) hi (u_facts hfc hkC (u_lays C.hts o1 hkn) hi).1 (va_cf) (C.2.2.2.2.2.2.2.1.trans hinit) (by rw [q2]; exact h6) q1 q3 (by rw [hsl]; exact k2_hasslot (q4 f hkn)) rfl rfl hd fun H' e1 e2 e3 => ?_
  · rw [hsl] at e1
    refine kk p e R s m args below meth c H' _ cells slots ls (C.to (C.hS.put e2 e3 (r a (by omega)).1)) (r.upd (fun x hx => same_sR hx) e3 (r a (by omega)).1 (Or.inl ⟨by show hK h a < 20; omega, ?_⟩)) h1 h2 hl
    have e9 : hK (sR h a f (some b)) a - 1 = ci := by show hK h a - 1 = ci; omega
    rw [e9, flds_sR hr]
    exact ⟨_, hq, t_OB.to (V := updV (vp_V (flds h a ci)) f (Value.ref b)) ⟨_, e1, q2, q3, t_set q4 hap hkn _⟩ (fun j _ => vp_updV_set (by rw [flds_len]; omega) _ j)⟩
