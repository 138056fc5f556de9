/-! THE JDK: StringBuilder, what its methods do while 16 bytes are enough -/
theorem g_dup_x1 {E : En} {M : Mt} {pc : Nat} {lv : List (Nat × Value)} {st : List Value} {h : Hp} {k n : Nat} {P : Option Value → Hp → Prop} {X : String → Hp → Prop} {v w : Value} (hd : decode (mC M) pc = .ok (.dup_x1, 1)) (hv : v.category = 1) (hw : w.category = 1)
    (kk : G E M (pc + 1) lv (v :: w :: v :: st) h k n P X) : G E M pc lv (v :: w :: st) h k n P X := by
  intro p e R s m args below meth c H locs cells slots ls C r h1 h2 hl
  exact lv_dup_x1 C.1 C.2.1 hd hv hw (kk p e R s m args below meth c H locs cells slots ls C r h1 h2 hl)
theorem g_blen {E : En} {M : Mt} {pc : Nat} {lv : List (Nat × Value)} {st : List Value} {h : Hp} {k n a len : Nat} {P : Option Value → Hp → Prop} {X : String → Hp → Prop} (hd : decode (mC M) pc = .ok (.arraylength, 1)) (hk : hK h a = 21) (hl : hL h a = len)
    (kk : G E M (pc + 1) lv (.int (nI len) :: st) h k n P X) : G E M pc lv (.ref a :: st) h k n P X := by
  intro p e R s m args below meth c H locs cells slots ls C r h1 h2 hls
  subst hl
  obtain ⟨cA, c1, c2, c3⟩ := r.arr hk (by omega)
  have c3 : H[a]? = some (arrV cA (hL h a) (fun j => .int (hI h a j))) := c3
  exact W.alen (n := nI (hL h a)) C.1 C.2.1 c3 (c1 (hL h a) (fun j => .int (hI h a j))) (by rw [arrV_size] <;> rfl) rfl rfl hd (kk p e R s m args below meth c H locs cells slots ls C r h1 h2 hls)
def SbOk (h : Hp) (so vb : Nat) : Prop := hK h so = 9 ∧ hR h so 0 = some vb ∧ hK h vb = 21 ∧ hL h vb = 16
