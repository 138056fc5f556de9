/-! TEXTS: a String of Latin-1 bytes, a constant or made by the run; System.arraycopy, clone of bytes -/
theorem same_sA {h : Hp} {a q : Nat} {f : Nat → Int32} (hx : q ≠ a) : SameAt h (sA h a f) q := ⟨hI_sA_ne hx, rfl, rfl, rfl, rfl⟩
/-- a byte row: of a constant, or a cell -/
def SvB (E : En) (h : Hp) (v n : Nat) (f : Nat → Int32) : Prop := (∃ i, i < 8 ∧ v = eV E i ∧ n = strL.getD i 0 ∧ ∀ j, j < n → f j = (strB.getD i []).getD j 0) ∨ (hK h v = 21 ∧ hL h v = n ∧ ∀ j, j < n → hI h v j = f j)
/-- a String and its row -/
def SvO (E : En) (h : Hp) (a v n : Nat) (f : Nat → Int32) : Prop := (∃ i, i < 8 ∧ a = eS E i ∧ v = eV E i ∧ n = strL.getD i 0 ∧ ∀ j, j < n → f j = (strB.getD i []).getD j 0) ∨ (hK h a = 11 ∧ hR h a 0 = some v ∧ hI h a 1 = 0 ∧ hK h v = 21 ∧ hL h v = n ∧ ∀ j, j < n → hI h v j = f j)
theorem SvO.b {E : En} {h : Hp} {a v n : Nat} {f : Nat → Int32} (o : SvO E h a v n f) : SvB E h v n f := by
  rcases o with ⟨i, h1, -, h3, h4, h5⟩ | ⟨-, -, -, h4, h5, h6⟩
  · exact Or.inl ⟨i, h1, h3, h4, h5⟩
  · exact Or.inr ⟨h4, h5, h6⟩
section
variable {E : En} {M : Mt} {pc : Nat} {lv : List (Nat × Value)} {st : List Value} {h : Hp} {k n : Nat} {P : Option Value → Hp → Prop} {X : String → Hp → Prop} {idx a v m : Nat} {f : Nat → Int32}
theorem g_svV (o : SvO E h a v m f) (hd : decode (mC M) pc = .ok (.getfield idx, 3)) (hl : Cond.fieldLink (mY M).cls idx "java/lang/String" "value" "[B" ∈ tG) (hf : FLk (mY M).cls idx 10 0) (kk : G E M (pc + 3) lv (.ref v :: st) h k n P X) : G E M pc lv (.ref a :: st) h k n P X := by
  rcases o with ⟨i, h1, rfl, rfl, -⟩ | ⟨h1, h2, -⟩
  · exact g_strV h1 hd hl kk
  · exact g_getR (ci := 10) (f := 0) rfl h2 hd hf (by decide) h1 kk
theorem g_svC (o : SvO E h a v m f) (hd : decode (mC M) pc = .ok (.getfield idx, 3)) (hl : Cond.fieldLink (mY M).cls idx "java/lang/String" "coder" "B" ∈ tG) (hf : FLk (mY M).cls idx 10 1) (kk : G E M (pc + 3) lv (.int 0 :: st) h k n P X) : G E M pc lv (.ref a :: st) h k n P X := by
  rcases o with ⟨i, h1, rfl, rfl, -⟩ | ⟨h1, h2, h3, -⟩
  · exact g_strC h1 hd hl kk
  · exact g_getI (ci := 10) (f := 1) rfl hd hf (by decide) h1 (by rw [h3]; exact kk)
theorem g_svL (o : SvB E h v m f) (hd : decode (mC M) pc = .ok (.arraylength, 1)) (kk : G E M (pc + 1) lv (.int (nI m) :: st) h k n P X) : G E M pc lv (.ref v :: st) h k n P X := by
  rcases o with ⟨i, h1, rfl, rfl, -⟩ | ⟨h1, h2, -⟩
  · exact g_strLen h1 hd kk
  · exact g_alenB h1 h2 hd kk
theorem g_svA {j : Nat} (o : SvB E h v m f) (hj : j < m) (hm : m < 2 ^ 31) (hd : decode (mC M) pc = .ok (.baload, 1)) (kk : G E M (pc + 1) lv (.int (f j) :: st) h k n P X) : G E M pc lv (.int (nI j) :: .ref v :: st) h k n P X := by
  rcases o with ⟨i, h1, rfl, rfl, h4⟩ | ⟨h1, h2, h3⟩
  · exact g_strBa h1 hj hd (by rw [← h4 j hj]; exact kk)
  · exact g_baloadX (f j) hd h1 (by rw [h2]; exact hj) (by rw [h2]; exact hm) (h3 j hj) kk
/-- a call of String's own methods -/
theorem g_callSv {Z : Mt} {st0 As : List Value} {h9 : Hp} {na : Nat} {x : Value} (o : SvO E h a v m f) (hd : decode (mC M) pc = .ok (.invokevirtual idx, 3)) (hh : mHh M = []) (hz : MV Z na) (hy : (mY Z).cls = "java/lang/String") (hs : ST M idx Z) (hst : st0 = As.reverse ++ .ref a :: st) (hna : As.length = na) (hcat : (st.map fun v => v.category).sum ≤ 8)
    (hct : CR E Z (.ref a :: As) h (some x) h9) (kk : G E M (pc + 3) lv (x :: st) h9 k n P X) : G E M pc lv st0 h k n P X := by
  rcases o with ⟨i, h1, rfl, rfl, -⟩ | ⟨h1, h2, h3, -⟩
  · exact g_callStr h1 hd hh hz hy hs hst hna hcat hct kk
  · exact g_cV1 (ci := 10) (q := ("java/lang/String", F_10, 4)) hd hh hz hs rfl hy.symm (by decide) hst hna hcat h1 hct kk
end
theorem fit_b128 : ∀ b, b < 128 → fits .byte (.int (nI b)) = true := by decide +kernel
/-- the words of arraycopy -/
def AcW (M : Mt) (idx : Nat) : Prop := Cond.methodLink (mY M).cls idx arraycopyName ∈ tG ∧ Cond.native arraycopyName ∈ tG ∧ Cond.static arraycopyName ∈ tG ∧ Cond.initialized "java/lang/System" ∈ tG ∧ 1 ≤ mFr M ∧ 30 ≤ mLo M
theorem src_of {E : En} {M : Mt} {p : Program} {R : Room} {s : State} {m : MethodId} {args : Array Value} {meth : Method} {c : Code} {H : Heap} {locs : List Loc} {h : Hp} {v n : Nat} {f : Nat → Int32} (C : Cx E M p R s m args meth c H locs) (r : Rel E s h H) (o : SvB E h v n f) : ∃ cs : Cell, H[v]? = some cs ∧ s.isArrayOf cs .byte ∧ cs.vm ≠ .unknown ∧ n ≤ cs.slots.size ∧ ∀ j : Nat, j < n → cs.slots[j]? = some (.int (f j)) := by
  rcases o with ⟨i, h1, rfl, rfl, h4⟩ | ⟨h1, h2, h3⟩
  · obtain ⟨cs, q1, q2, q3, q4, q5, q6, q7⟩ := (((strOk C).1 i h1).2.2.2).kept C.hS.2.1
    exact ⟨cs, q1, q2, q3, q4, fun j hj => by rw [q6 j hj, h4 j hj]⟩
  · obtain ⟨cA, c1, c2, c3⟩ := r.arr h1 (by omega)
    have c3 : H[v]? = some (arrV cA (hL h v) (fun j => .int (hI h v j))) := c3
    refine ⟨_, c3, c1 _ _, (fun z => by cases z), by rw [arrV_size, h2]; exact Nat.le_refl _, fun j hj => ?_⟩
    rw [arrV_read _ _ (by rw [h2]; exact hj), h3 j hj]
set_option maxHeartbeats 1000000 in
theorem g_copyB {E : En} {M : Mt} {pc : Nat} {lv : List (Nat × Value)} {st : List Value} {h : Hp} {k n : Nat} {P : Option Value → Hp → Prop} {X : String → Hp → Prop} {idx a v m n1 sp dp N : Nat} {f : Nat → Int32} (o : SvB E h v m f) (hk : hK h a = 21) (hl : hL h a = n1) (h4 : sp + N ≤ m) (h5 : dp + N ≤ n1) (hm : m < 2 ^ 31) (hn1 : n1 < 2 ^ 31) (hfit : ∀ j, j < m → ∃ b, b < 128 ∧ f j = nI b) (hW : AcW M idx) (hcat : (st.map fun v => v.category).sum ≤ 8)
    (hd : decode (mC M) pc = .ok (.invokestatic idx, 3)) (kk : G E M (pc + 3) lv st (sA h a (va_cpy f (hI h a) sp dp N)) k n P X) : G E M pc lv (.int (nI N) :: .int (nI dp) :: .ref a :: .int (nI sp) :: .ref v :: st) h k n P X := by
  intro p e R s mm args below meth c H locs cells slots ls C r h1 h2 hls
  obtain ⟨w1, w2, w3, w4, w5, w6⟩ := hW
  have hfr := C.2.2.2.2.2.2.2.2.2.2.2.2.1
  have hlo := C.2.2.2.2.2.2.2.2.2.2.2.2.2.1
  obtain ⟨cs, q1, ⟨q2, k0, hk0, cm0, hkk0⟩, q3, q4, q5⟩ := src_of C r o
  obtain ⟨cA, c1, c2, c3⟩ := r.arr hk (by omega)
  have c3 : H[a]? = some (vp_cell cA (hL h a, .inl (hI h a))) := c3
  have c1 : ArrOfT s cA .byte := c1
  have c2 : va_RA s cA .byte := c2
  obtain ⟨-, k1, hk1, cm1, hkk1⟩ := c1 (hL h a) (fun j => .int (hI h a j))
  have nz : ∀ {x : Nat}, x < 2 ^ 31 → ¬ nI x < 0 ∧ (nI x).toInt = (x : Int) ∧ (nI x).toNatClampNeg = x := fun {x} hx => ⟨lt0 hx, nI_toInt hx, nI_clamp hx⟩
  obtain ⟨s1, s2, s3⟩ := nz (x := sp) (by omega)
  obtain ⟨d1, d2, d3⟩ := nz (x := dp) (by omega)
  obtain ⟨t1, t2, t3⟩ := nz (x := N) (by omega)
  intro T hT Xs
  obtain ⟨vm', X', step⟩ := Xs.arraycopy C.1 C.2.2.2.1 (C.hts _ w1) (C.hts _ w2) (C.hts _ w3) (C.hts _ w4) (src := v) (dst := a) (cs := cs) (cd := vp_cell cA (hL h a, .inl (hI h a))) (srcPos := nI sp) (destPos := nI dp) (n := nI N) (by rw [hT]; exact q1) (by rw [hT]; exact c3)
    q2 (fun _ h => by cases h) q3 (fun h => by cases h) hk0 hk1 hkk0 hkk1 (by simp [refKind]) s1 d1 t1
    (by rw [s2, t2]; omega)
    (by rw [d2, t2]; show ¬ _ > ((arrV cA (hL h a) (fun j => .int (hI h a j))).slots.size : Int); rw [arrV_size, hl]; omega)
    (fun vm₁ _ i hi => by
      have e : cs.slots.getD ((nI sp).toNatClampNeg + i) .null = .int (f (sp + i)) := by
        rw [t3] at hi
        rw [s3, Array.getD_eq_getD_getElem?, q5 _ (by omega)]
        rfl
      obtain ⟨b, hb, eb⟩ := hfit (sp + i) (by rw [t3] at hi; omega)
      refine ⟨?_, ?_⟩
      · rw [e, eb]
        exact fit_b128 b hb
      · rw [e]
        exact trivial)
    (g := F0 mm pc ls (.int (nI N) :: .int (nI dp) :: .ref a :: .int (nI sp) :: .ref v :: st)) rfl (by rw [C.2.2.1]; exact hls.1) (rest := st) rfl (by rw [C.2.1]; exact hd) (by omega) (by have := lv_room (m := mm) (pc := pc) (ls := ls) (rest := st) hcat; have e9 : nativeFrameWords "java/lang/System" "arraycopy" 5 = 7 := (by decide); rw [e9]; show 2 * 0 + _ + _ ≤ R.locals; omega)
  have e1 : copied cs (vp_cell cA (hL h a, .inl (hI h a))) (nI sp) (nI dp) (nI N) = vp_cell cA (hL h a, .inl (va_cpy f (hI h a) sp dp N)) := by
    have z : copied cs (vp_cell cA (hL h a, .inl (hI h a))) (nI sp) (nI dp) (nI N) = vp_cell cA (hL h a, .inl (va_cpy f (hI h a) (nI sp).toNatClampNeg (nI dp).toNatClampNeg (nI N).toNatClampNeg)) := va_copiedX (fun z => .int z) cs cA f (hI h a) q5 (by rw [s3, t3]; exact h4)
    rw [s3, d3, t3] at z
    exact z
  rw [e1] at X' step
  have hl' : a < H.size := (Array.getElem?_eq_some_iff.mp c3).1
  have hheap : ((T.setVm vm').setCell a (vp_cell cA (hL h a, .inl (va_cpy f (hI h a) sp dp N)))).heap = H.setIfInBounds a (vp_cell cA (hL h a, .inl (va_cpy f (hI h a) sp dp N))) := by rw [← hT]; rfl
  have oq : ∀ q : Nat, q ≠ a → (H.setIfInBounds a (vp_cell cA (hL h a, .inl (va_cpy f (hI h a) sp dp N))))[q]? = H[q]? := fun q hq => by simp [Array.getElem?_setIfInBounds, Ne.symm hq]
  have hA : gA E a := (r a (by omega)).1
  have hS := C.hS
  obtain ⟨t, a1, b1⟩ := kk p e R s mm args below meth c _ _ cells slots ls (C.to ⟨by simp; exact hS.1, fun q g1 g2 => by
      rw [oq q (fun e => g2 (by rw [e]; exact hA))]
      exact hS.2.1 q g1 g2, fun q hq => by
      rcases List.mem_append.mp hq with z | z
      · exact hS.2.2 q z
      · obtain ⟨y, -, hz⟩ := List.mem_map.mp z
        rw [← hz]
        exact hA⟩) (r.upd (fun q hq => same_sA hq) oq hA (Or.inr ⟨by show 20 ≤ hK h a; omega, cA, by show ArrOfT s cA (aTy (hK h a)); rw [hk]; exact c1, by show va_RA s cA (aTy (hK h a)); rw [hk]; exact c2, by
        show (H.setIfInBounds a _)[a]? = some (vp_cell cA (aCon (sA h a (va_cpy f (hI h a) sp dp N)) a (hK h a)))
        rw [hk]
        have e7 : aCon (sA h a (va_cpy f (hI h a) sp dp N)) a 21 = (hL h a, .inl (va_cpy f (hI h a) sp dp N)) := by
          show (hL h a, _) = _
          rw [if_pos (by decide), hI_sA_same]
        rw [e7]
        simp [Array.getElem?_setIfInBounds, hl']⟩)) h1 h2 hls _ hheap X'
  exact ⟨t, step t a1, b1⟩
/-- the words of clone, of bytes -/
def ClW (M : Mt) (idx ic : Nat) : Prop := (Cond.methodLink (mY M).cls idx ⟨"[B", "clone", "()Ljava/lang/Object;"⟩ ∈ tG ∧ Cond.sameMethod "[B" "java/lang/Object" "clone" "()Ljava/lang/Object;" ∈ tG ∧ Cond.native ⟨"java/lang/Object", "clone", "()Ljava/lang/Object;"⟩ ∈ tG ∧ Cond.instanceMethod ⟨"java/lang/Object", "clone", "()Ljava/lang/Object;"⟩ ∈ tG ∧ Cond.selects "[B" ⟨"[B", "clone", "()Ljava/lang/Object;"⟩ ⟨"java/lang/Object", "clone", "()Ljava/lang/Object;"⟩ ∈ tG ∧ Cond.castable "[B" "java/lang/Cloneable" ∈ tN ∧ Cond.classLink (mY M).cls ic "[B" ∈ tG) ∧ 1 ≤ mFr M ∧ 30 ≤ mLo M
/-- clone of a byte row, and its cast -/
theorem g_cloneB {E : En} {M : Mt} {pc : Nat} {lv : List (Nat × Value)} {st : List Value} {h : Hp} {k n : Nat} {P : Option Value → Hp → Prop} {X : String → Hp → Prop} {idx ic a n1 : Nat} (hk : hK h a = 21) (hl : hL h a = n1) (hfit : ∀ j, j < n1 → ∃ b, b < 128 ∧ hI h a j = nI b) (hW : ClW M idx ic) (hcat : (st.map fun v => v.category).sum ≤ 8)
    (hd : decode (mC M) pc = .ok (.invokevirtual idx, 3)) (hd3 : decode (mC M) (pc + 3) = .ok (.checkcast ic, 3)) (kk : ∀ q : Nat, hK h q = 0 → G E M (pc + 6) lv (.ref q :: st) (sA (hNew h q 21 n1) q (hI h a)) k n P X) : G E M pc lv (.ref a :: st) h (k + 1) (n + n1) P X := by
  intro p e R s mm args below meth c H locs cells slots ls C r h1 h2 hls
  obtain ⟨⟨w1, w2, w3, w4, w5, w6, w7⟩, w8, w9⟩ := hW
  have hfr := C.2.2.2.2.2.2.2.2.2.2.2.2.1
  have hlo := C.2.2.2.2.2.2.2.2.2.2.2.2.2.1
  obtain ⟨cA, c1, c2, c3⟩ := r.arr hk (by omega)
  have c3 : H[a]? = some (vp_cell cA (hL h a, .inl (hI h a))) := c3
  have c1 : ArrOfT s cA .byte := c1
  have c2 : va_RA s cA .byte := c2
  have hnm : s.vm.findClass "[B" = some cA := c2
  have hsz : (vp_cell cA (hL h a, .inl (hI h a))).slots.size = hL h a := arrV_size _ _ _
  obtain ⟨c0, t0', f1, f2, f3⟩ := Cond.castable_spec (va_Nw.use (A := args) rfl (C.cst.1 _ w6))
  cases hnm.symm.trans f1
  intro T hT Xs
  have hcellT : T.heap[a]? = some (vp_cell cA (hL h a, .inl (hI h a))) := by rw [hT]; exact c3
  obtain ⟨-, kA, hkA, comp, hkind⟩ := State.isArrayOf_alike Xs.warmed.alike (c1 0 (fun _ => .null))
  obtain ⟨-, kS, hkS, compS, hkindS⟩ := c1 0 (fun _ => .null)
  obtain ⟨vm', X', st'⟩ := Xs.cloneArray C.1 C.2.2.2.1 (C.hts _ w1) (C.hts _ w2) (C.hts _ w3) (C.hts _ w4) (C.hts _ w5) (a := a) (cell := vp_cell cA (hL h a, .inl (hI h a))) hcellT (fun k h => by cases h) (fun h => by cases h) hnm f2 f3
    (fun i v hv => by
      have hk' : T.vm.classes[(vp_cell cA (hL h a, .inl (hI h a))).cls]? = some kA := hkA
      have hi : i < hL h a := by
        rw [← hsz]
        exact (Array.getElem?_eq_some_iff.mp hv).1
      have e : v = .int (hI h a i) := by
        have z : (arrV cA (hL h a) (fun j => Value.int (hI h a j))).slots[i]? = some v := hv
        rw [arrV_read _ _ hi] at z
        exact (Option.some.inj z).symm
      obtain ⟨b, hb, eb⟩ := hfit i (by rw [← hl]; exact hi)
      have z : fits .byte v = true := by rw [e, eb]; exact fit_b128 b hb
      simpa [State.fitsSlot, State.slotType?, hk', hkind] using z)
    (g := F0 mm pc ls (.ref a :: st)) rfl (by rw [C.2.2.1]; exact hls.1) rfl (by rw [C.2.1]; exact hd) (by omega) (by have := lv_room (m := mm) (pc := pc) (ls := ls) (rest := st) hcat; show 2 * 0 + _ + 14 ≤ R.locals; omega) (by omega) (by rw [hsz]; omega) (hloader := Vm.clonesLoader_of_array hkS hkindS)
  rw [show ({ cls := (vp_cell cA (hL h a, .inl (hI h a))).cls, slots := (vp_cell cA (hL h a, .inl (hI h a))).slots } : Cell) = vp_cell cA (hL h a, .inl (hI h a)) from rfl, hsz] at X'
  generalize hH1 : H.push (vp_cell cA (hL h a, .inl (hI h a))) = H1
  have z1 : H1.size = H.size + 1 := by rw [← hH1, Array.size_push]
  have e1 : H1[H.size]? = some (vp_cell cA (hL h a, .inl (hI h a))) := by rw [← hH1, Array.getElem?_push_size]
  have o1 : ∀ q : Nat, q < H.size → H1[q]? = H[q]? := fun q hq => by rw [← hH1, Array.getElem?_push, if_neg (Nat.ne_of_lt hq)]
  obtain ⟨C1, hB⟩ := rel_new C z1 o1
  have r1 : Rel E s (sA (hNew h H.size 21 n1) H.size (hI h a)) H1 := by
    intro q hq
    by_cases eq : q = H.size
    · subst eq
      refine ⟨hB, Or.inr ⟨?_, cA, ?_, ?_, ?_⟩⟩
      · show 20 ≤ hK (hNew h H.size 21 n1) H.size
        rw [hK_new, if_pos rfl]; decide
      · show ArrOfT s cA (aTy (hK (hNew h H.size 21 n1) H.size))
        rw [hK_new, if_pos rfl]; exact c1
      · show va_RA s cA (aTy (hK (hNew h H.size 21 n1) H.size))
        rw [hK_new, if_pos rfl]; exact c2
      · show H1[H.size]? = some (vp_cell cA (aCon (sA (hNew h H.size 21 n1) H.size (hI h a)) H.size (hK (hNew h H.size 21 n1) H.size)))
        rw [hK_new, if_pos rfl, e1]
        have e7 : aCon (sA (hNew h H.size 21 n1) H.size (hI h a)) H.size 21 = (hL h a, .inl (hI h a)) := by
          show (hL (hNew h H.size 21 n1) H.size, _) = _
          rw [if_pos (by decide), hI_sA_same, hL_new, if_pos rfl, hl]
        rw [e7]
    · have hs : SameAt h (sA (hNew h H.size 21 n1) H.size (hI h a)) q := by
        have s1 : SameAt h (hNew h H.size 21 n1) q := by simp [SameAt, hI_new, hR_new, hJ_new, hK_new, hL_new, eq]
        have s2 : SameAt (hNew h H.size 21 n1) (sA (hNew h H.size 21 n1) H.size (hI h a)) q := same_sA eq
        exact ⟨s2.1.trans s1.1, s2.2.1.trans s1.2.1, s2.2.2.1.trans s1.2.2.1, s2.2.2.2.1.trans s1.2.2.2.1, s2.2.2.2.2.trans s1.2.2.2.2⟩
      have hq0 : hK h q ≠ 0 := by rw [← hs.2.2.2.1]; exact hq
      exact ⟨(r q hq0).1, (r q hq0).2.kept hs (o1 q (r.lt hq0))⟩
  have K := kk H.size (rel_free r) p e R s mm args below meth c H1 locs (cells + 1) (slots + n1) ls C1 r1 (by omega) (by omega) hls
  have cq : H1[H.size]? = some (arrV cA (hL h a) (fun j => Value.int (hI h a j))) := e1
  have X2 : W p (eL E) e R s mm args below meth c H1 locs (cells + 1) (slots + n1) (vx_MQ below (gQ E P) (gX E X) args s R.cells R.slots (gA E)) (F0 mm (pc + 3) ls (.ref H.size :: st)) := by
    intro T2 hT2 Y2
    obtain ⟨vm2, Y3, st2⟩ := Y2.checkcastYes C.1 C.2.2.2.1 (C.hts _ w7) (by rw [hT2]; exact cq) rfl hnm (va_asg _ _) (g := F0 mm (pc + 3) ls (.ref H.size :: st)) rfl rfl (by rw [C.2.1]; exact hd3)
    obtain ⟨t, a1, b1⟩ := K (T2.setVm vm2) hT2 Y3
    exact ⟨t, st2 t a1, b1⟩
  obtain ⟨t, b1, b2⟩ := X2 ((T.setVm vm').pushCell (vp_cell cA (hL h a, .inl (hI h a)))) (by rw [← hH1, ← hT]; rfl) (by rw [← hl]; exact X')
  refine ⟨t, st' t ?_, b2⟩
  rw [show ({ cls := (vp_cell cA (hL h a, .inl (hI h a))).cls, slots := (vp_cell cA (hL h a, .inl (hI h a))).slots } : Cell) = vp_cell cA (hL h a, .inl (hI h a)) from rfl, hT]
  exact b1
