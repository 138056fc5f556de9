/-! THROWS, HANDLERS -/
theorem G.mono {E : En} {M : Mt} {pc : Nat} {lv : List (Nat × Value)} {st : List Value} {h : Hp} {k n k' n' : Nat} {P : Option Value → Hp → Prop} {X : String → Hp → Prop} (hk : k ≤ k') (hn : n ≤ n') (g : G E M pc lv st h k n P X) : G E M pc lv st h k' n' P X := fun p e R s m args below meth c H locs cells slots ls C r h1 h2 hl => g p e R s m args below meth c H locs cells slots ls C r (by omega) (by omega) hl
abbrev CE (E : En) (Z : Mt) (av : List Value) (h : Hp) (cn : String) : Prop := CT E Z av h 1 6 (fun _ _ => False) (fun C h' => C = cn ∧ h' = h)
def nmT : List String := ["java/lang/RuntimeException", "java/lang/Exception"]
def TH (own : String) (ik ic : Nat) (cn : String) : Prop := (Bundle.fit cn = true ∧ ∀ n ∈ nmT, Bundle.fit n = true) ∧ ∀ w ∈ Cond.classLink own ik cn :: Cond.initialized cn :: vx_atS own ic cn nmT, w ∈ lw_tbl ∧ (goodWord w = true ∨ (nWord w = true ∧ w.onTables = true))
theorem TH.ot {own : String} {ik ic : Nat} {cn : String} (h : TH own ik ic cn) : ∀ w ∈ Cond.classLink own ik cn :: Cond.initialized cn :: vx_atS own ic cn nmT, vx_ot w = true := fun w hw => by
  unfold vx_ot
  rcases (h.2 w hw).2 with z | ⟨-, z⟩
  · rw [z, Bool.or_true]
  · rw [z, Bool.true_or]
theorem TH.at {E : En} {M : Mt} {p : Program} {R : Room} {s : State} {m : MethodId} {args : Array Value} {meth : Method} {c : Code} {H : Heap} {locs : List Loc} {own : String} {ik ic : Nat} {cn : String} (h : TH own ik ic cn) (C : Cx E M p R s m args meth c H locs) : ∀ w ∈ Cond.classLink own ik cn :: Cond.initialized cn :: vx_atS own ic cn nmT, w.before args s = true := fun w hw => by
  rcases (h.2 w hw).2 with z | ⟨z1, z2⟩
  · exact C.hts w (tG_mem (h.2 w hw).1 z)
  · exact va_Nw.use z2 (C.cst.1 w (List.mem_filter.mpr ⟨(h.2 w hw).1, z1⟩))
theorem th_ISE : TH "HonestScales" 59 63 "java/lang/IllegalStateException" := ⟨by decide +kernel, by decide +kernel⟩
theorem th_IAE : TH "HonestScales" 307 311 "java/lang/IllegalArgumentException" := ⟨by decide +kernel, by decide +kernel⟩
theorem th_IOB : TH "HonestScales" 183 187 "java/lang/IndexOutOfBoundsException" := ⟨by decide +kernel, by decide +kernel⟩
theorem thr_X {E : En} {M : Mt} {p : Program} {R : Room} {s : State} {m : MethodId} {args : Array Value} {meth : Method} {c : Code} {H : Heap} {locs : List Loc} {h : Hp} {X : String → Hp → Prop} {cn : String} (C : Cx E M p R s m args meth c H locs) (r : Rel E s h H) (hx : X cn h) : ∀ t : State, s.vm.Alike t.vm → H.size ≤ t.heap.size → (∀ q : Nat, q < H.size → t.heap[q]? = H[q]?) → gX E X cn s t := fun t ha hz hq =>
  ⟨⟨h, hx, (r.kept hq).moved ha⟩, ⟨Nat.le_trans C.hS.1 hz, fun q h1 h2 => by rw [hq q (Nat.lt_of_lt_of_le h1 C.hS.1)]; exact C.hS.2.1 q h1 h2⟩⟩
section
variable {E : En} {M : Mt} {pc : Nat} {lv : List (Nat × Value)} {st : List Value} {h : Hp} {k n : Nat} {P : Option Value → Hp → Prop} {X : String → Hp → Prop} {ik is ic : Nat} {cn text : String} {sq : Nat}
theorem g_throwS (hE : (eL E).stackTraces = false) (hh : mHh M = []) (hT : TH (mY M).cls ik ic cn) (w : Nat) (hw : strT[w]? = some ((mY M).cls, is, text, sq))
    (d0 : decode (mC M) pc = .ok (.new ik, 3)) (d3 : decode (mC M) (pc + 3) = .ok (.dup, 1)) (d4 : decode (mC M) (pc + 4) = .ok (.ldc is, 2)) (d6 : decode (mC M) (pc + 6) = .ok (.invokespecial ic, 3)) (d9 : decode (mC M) (pc + 9) = .ok (.athrow, 1))
    (hfr : 6 ≤ mFr M) (hlo : 95 ≤ mLo M) (hcat : (st.map fun v => v.category).sum ≤ 8) (hx : X cn h) : G E M pc lv st h (k + 1) (n + 6) P X := by
  intro p e R s m args below meth c H locs cells slots ls C r h1 h2 hls
  have hfr2 := C.2.2.2.2.2.2.2.2.2.2.2.2.1
  have hlo2 := C.2.2.2.2.2.2.2.2.2.2.2.2.2.1
  have hat := hT.at C
  exact vx_throwS (Qc := gQ E P) (XC := gX E X) (free := gA E) (A := gA E) (names := nmT) (cls := cn) (mc := R.cells) (ms := R.slots) C.1 C.2.1 hE C.2.2.2.1 hT.1.1 hT.1.2 (hat _ List.mem_cons_self) (hat _ (List.mem_cons_of_mem _ List.mem_cons_self)) (C.cst.2.2.2.1 _ (List.mem_of_getElem? hw)) (fun w hw => hat w (List.mem_cons_of_mem _ (List.mem_cons_of_mem _ hw))) hT.ot
    C.cst.2.2.2.2.2.2.2.1 C.cst.2.2.2.2.2.2.2.2.1 C.hS (by rw [C.2.2.1]; exact hls.1) d0 d3 d4 d6 d9 (by rw [C.2.2.2.2.2.2.2.2.1, hh]; intro x hx; cases hx) (by show 2 + 3 < R.frames; omega) (by show _ + (13 * (2 + 1) + 43) ≤ R.locals; omega) (by omega) (by omega) C.2.2.2.2.2.2.1 (thr_X C r hx) C.hS.2.2 (by omega) (by omega)
theorem g_throwSW (hE : (eL E).stackTraces = false) (hh : mHh M = []) (hT : TH (mY M).cls ik ic cn) (w : Nat) (hw : strT[w]? = some ((mY M).cls, is, text, sq))
    (d0 : decode (mC M) pc = .ok (.new ik, 3)) (d3 : decode (mC M) (pc + 3) = .ok (.dup, 1)) (d4 : decode (mC M) (pc + 4) = .ok (.ldc_w is, 3)) (d7 : decode (mC M) (pc + 7) = .ok (.invokespecial ic, 3)) (d10 : decode (mC M) (pc + 10) = .ok (.athrow, 1))
    (hfr : 6 ≤ mFr M) (hlo : 95 ≤ mLo M) (hcat : (st.map fun v => v.category).sum ≤ 8) (hx : X cn h) : G E M pc lv st h (k + 1) (n + 6) P X := by
  intro p e R s m args below meth c H locs cells slots ls C r h1 h2 hls
  have hfr2 := C.2.2.2.2.2.2.2.2.2.2.2.2.1
  have hlo2 := C.2.2.2.2.2.2.2.2.2.2.2.2.2.1
  have hat := hT.at C
  exact vx_throwSW (Qc := gQ E P) (XC := gX E X) (free := gA E) (A := gA E) (names := nmT) (cls := cn) (mc := R.cells) (ms := R.slots) C.1 C.2.1 hE C.2.2.2.1 hT.1.1 hT.1.2 (hat _ List.mem_cons_self) (hat _ (List.mem_cons_of_mem _ List.mem_cons_self)) (C.cst.2.2.2.1 _ (List.mem_of_getElem? hw)) (fun w hw => hat w (List.mem_cons_of_mem _ (List.mem_cons_of_mem _ hw))) hT.ot
    C.cst.2.2.2.2.2.2.2.1 C.cst.2.2.2.2.2.2.2.2.1 C.hS (by rw [C.2.2.1]; exact hls.1) d0 d3 d4 d7 d10 (by rw [C.2.2.2.2.2.2.2.2.1, hh]; intro x hx; cases hx) (by show 2 + 3 < R.frames; omega) (by show _ + (13 * (2 + 1) + 43) ≤ R.locals; omega) (by omega) (by omega) C.2.2.2.2.2.2.1 (thr_X C r hx) C.hS.2.2 (by omega) (by omega)
/-- a call that throws for sure, not caught here -/
theorem g_eV {Z : Mt} {st0 As : List Value} {idx na ci b : Nat} {q : vw_C} {cn : String} (hd : decode (mC M) pc = .ok (.invokevirtual idx, 3)) (hh : mHh M = []) (hz : MV Z na) (hs : ST M idx Z) (hq : cls[ci]? = some q) (hq1 : q.1 = (mY Z).cls) (hci : ci < 19) (hb : hK h b = ci + 1) (hst : st0 = As.reverse ++ .ref b :: st) (hna : As.length = na) (hcat : (st.map fun v => v.category).sum ≤ 8)
    (hct : CE E Z (.ref b :: As) h cn) (hx : X cn h) : G E M pc lv st0 h (k + 1) (n + 6) P X :=
  g_callV hd hh hz hs hq hq1 hci hb hst hna hcat hct (fun C h1 z => by rw [z.1, z.2]; exact hx) (fun _ _ z => z.elim)
theorem g_eS {Z : Mt} {st0 As : List Value} {idx na : Nat} {cn : String} (hd : decode (mC M) pc = .ok (.invokestatic idx, 3)) (hh : mHh M = []) (hz : MS Z na) (hs : ST M idx Z) (hst : st0 = As.reverse ++ st) (hna : As.length = na) (hcat : (st.map fun v => v.category).sum ≤ 8)
    (hct : CE E Z As h cn) (hx : X cn h) : G E M pc lv st0 h (k + 1) (n + 6) P X :=
  g_callS hd hh hz hs hst hna hcat hct (fun C h1 z => by rw [z.1, z.2]; exact hx) (fun _ _ z => z.elim)
end
/-- what a handler of M takes at pc -/
def HC (M : Mt) (pc : Nat) (cn : String) (hp : Nat) : Prop := ∃ (pre : List (Nat × Nat × Nat × Nat)) (x : Nat × Nat × Nat × Nat) (suf : List (Nat × Nat × Nat × Nat)), mHh M = pre ++ x :: suf ∧
  (∀ z ∈ pre, z.2.2.2 ≠ 0 ∧ ∃ nm : String, Cond.classLink (mY M).cls z.2.2.2 nm ∈ tG ∧ (cn, nm) ∈ ncT) ∧ (x.1 ≤ pc ∧ pc < x.2.1) ∧ x.2.2.2 ≠ 0 ∧ x.2.2.1 = hp ∧ ∃ nm : String, Cond.classLink (mY M).cls x.2.2.2 nm ∈ tG ∧ Cond.castable cn nm ∈ tN
theorem g_runH {E : En} {M : Mt} {pc : Nat} {lv : List (Nat × Value)} {st st0 : List Value} {k n kz nz : Nat} {P P' : Option Value → Hp → Prop} {X X' : String → Hp → Prop} {p : Program} {e : Env} {R : Room} {s : State} {m : MethodId} {args : Array Value} {below : List Frame} {meth : Method} {c : Code} {H : Heap} {locs : List Loc} {cells slots : Nat} {ls : Array Slot} {a : Array Value}
    (C : Cx E M p R s m args meth c H locs) (h1 : cells + (k + kz) ≤ R.cells) (h2 : slots + (n + nz) ≤ R.slots) (hl : lv_has ls (mN M) lv)
    (hr : vx_Run p (eL E) e R s m args below meth c H locs cells slots kz nz (F0 m pc ls st0) st (gQ E P' a) (gX E X') (gA E)) (kx : ∀ (cn : String) (h1 : Hp), X' cn h1 → ∃ hp, HC M pc cn hp ∧ ∀ q : Nat, G E M hp lv [.ref q] h1 k n P X) (kk : ∀ (v : Option Value) (h1 : Hp), P' v h1 → G E M (pc + 3) lv (v.toList ++ st) h1 k n P X) :
    W p (eL E) e R s m args below meth c H locs cells slots (vx_MQ below (gQ E P) (gX E X) args s R.cells R.slots (gA E)) (F0 m pc ls st0) := by
  intro T hT X9
  rcases hr T hT X9 with ⟨v, st₀, t, T', L, h0, X', hL, e1, e2, ⟨⟨v', h', hv, hp, hrel⟩, hF⟩, st'⟩ | ⟨q, st₀, t, T', L, Ec, ce, h0, X', hL, e1, e2, ⟨⟨h', hp, hrel⟩, hF⟩, hce, hcv, hcl, st'⟩
  · cases hv
    obtain ⟨k1, k2, k3⟩ := vx_keep h0 e1 C.hS (fun q _ z => z) (fun q z => z) hL hF
    have hal : s.vm.Alike t.vm := by rw [← e2]; exact X'.warmed.alike
    obtain ⟨t2, a1, b1⟩ := kk v h' hp p e R s m args below meth c T'.heap (locs ++ L) (cells + kz) (slots + nz) ls (C.to k3) (by rw [e1]; exact hrel.moved hal.symm) (by omega) (by omega) hl T' rfl X'
    exact ⟨t2, st' t2 a1, b1⟩
  · obtain ⟨k1, k2, k3⟩ := vx_keep h0 e1 C.hS (fun q _ z => z) (fun q z => z) hL hF
    have hal : s.vm.Alike t.vm := by rw [← e2]; exact X'.warmed.alike
    obtain ⟨hpc, ⟨pre, x, suf, c1, c2, c3, c4, c5, nm, c6, c7⟩, hG⟩ := kx _ _ hp
    subst c5
    have ht : c.exceptionTable.toList = tableOf pre ++ (⟨x.1, x.2.1, x.2.2.1, x.2.2.2⟩ : ExceptionTableEntry) :: tableOf suf := by
      rw [C.2.2.2.2.2.2.2.2.1, c1]
      simp [tableOf]
    obtain ⟨t2, a1, b1⟩ := vx_catch (H := T'.heap) (locs := locs ++ L) (cells := cells + kz) (slots := slots + nz) (rest := st) (args := args) (ls := ls) (pc := pc) (own := (mY M).cls) (name := nm) C.2.2.2.1 _ _ _ ht
      (fun z hz => by
        obtain ⟨z', hz', rfl⟩ := List.mem_map.mp hz
        obtain ⟨d1, nm2, d2, d3⟩ := c2 z' hz'
        exact Or.inr ⟨d1, nm2, C.hts _ d2, C.cst.2.2.2.2.2.2.2.2.2.2.2.2.1 _ d3⟩)
      (by simp [covers, c3.1, c3.2]) c4 (C.hts _ c6) (va_Nw.use rfl (C.cst.1 _ c7)) (by rw [e1]; exact hce) hcv hcl
      (hG q p e R s m args below meth c T'.heap (locs ++ L) (cells + kz) (slots + nz) ls (C.to k3) (by rw [e1]; exact hrel.moved hal.symm) (by omega) (by omega) hl) T' rfl X'
    exact ⟨t2, st'.trans a1, b1⟩
theorem g_callVH {E : En} {M Z : Mt} {pc : Nat} {lv : List (Nat × Value)} {st st0 As : List Value} {h : Hp} {k n kz nz : Nat} {P P' : Option Value → Hp → Prop} {X X' : String → Hp → Prop} {idx na ci b : Nat} {q : vw_C} (hd : decode (mC M) pc = .ok (.invokevirtual idx, 3)) (hz : MV Z na) (hs : ST M idx Z) (hq : cls[ci]? = some q) (hq1 : q.1 = (mY Z).cls) (hci : ci < 19) (hb : hK h b = ci + 1) (hst : st0 = As.reverse ++ .ref b :: st) (hna : As.length = na) (hcat : (st.map fun v => v.category).sum ≤ 8)
    (hct : CT E Z (.ref b :: As) h kz nz P' X') (kx : ∀ (cn : String) (h1 : Hp), X' cn h1 → ∃ hp, HC M pc cn hp ∧ ∀ q : Nat, G E M hp lv [.ref q] h1 k n P X) (kk : ∀ (v : Option Value) (h1 : Hp), P' v h1 → G E M (pc + 3) lv (v.toList ++ st) h1 k n P X) : G E M pc lv st0 h (k + kz) (n + nz) P X := by
  intro p e R s m args below meth c H locs cells slots ls C r h1 h2 hl
  obtain ⟨z1, z2, z3, z4, z5, z6⟩ := hz
  obtain ⟨s1, s2, s3⟩ := hs
  obtain ⟨r', hr', cellV, g1, g2, g3, -⟩ := r.obj hb hci
  have hfc := (C.hK.1 ci q hq).2.1
  have hfr := C.2.2.2.2.2.2.2.2.2.2.2.2.1
  have hlo := C.2.2.2.2.2.2.2.2.2.2.2.2.2.1
  refine g_runH C h1 h2 hl (vx_runV (Ts := tG) (cc := mC M) (nL := mN M) (own := (mY M).cls) (C := (mY Z).cls) (As := As) (b := b) (n := na) (index := idx) ⟨C.1, C.2.1, C.2.2.1, C.2.2.2.1, C.hts⟩ hct
    (cwV na C.hts (fun w hw => ?_) (mW_code z1) rfl rfl ⟨rfl, z6⟩ ⟨by show mFr Z + 1 ≤ R.frames; omega, by show 8 + (mN Z + 11) + mLo Z ≤ R.locals; omega⟩)
    ⟨Inv.blind, ⟨cellV, g1, by rw [g3]; rfl, by rw [← hq1, g2]; exact hfc⟩, fun U hU hW => ⟨rfl, inv_at C r U hU hW⟩⟩ rfl hna hl.1 hst (lv_room hcat) hd ⟨by omega, by omega⟩) kx kk
  simp only [wsV, List.cons_append, List.nil_append, List.mem_cons] at hw
  rcases hw with rfl | rfl | rfl | rfl | hw
  · exact ⟨s1, tG_good _ s1⟩
  · exact ⟨z2, tG_good _ z2⟩
  · exact ⟨z3, tG_good _ z3⟩
  · exact ⟨z4, tG_good _ z4⟩
  · exact mW_good z1 z5 w hw
/-- a static method with handlers -/
def MSX (Z : Mt) (na : Nat) : Prop := mHh Z ≠ [] ∧ Cond.static (mY Z) ∈ tG ∧ Cond.initialized (mY Z).cls ∈ tG ∧ Cond.codeWith (mY Z) (mC Z) (mN Z) (mRt Z) (mHh Z) ∈ tG ∧ ((mY Z).cls ≠ "java/lang/invoke/MethodHandle" ∧ (mY Z).cls ≠ "java/lang/invoke/VarHandle" ∧ (parseMethodDescriptor (mY Z).desc).map (fun d => d.parameters.length) = some na)
theorem mW_goodX {Z : Mt} (h : mHh Z ≠ []) (hc : Cond.codeWith (mY Z) (mC Z) (mN Z) (mRt Z) (mHh Z) ∈ tG) : GoodIn tG (mW Z) := by
  rw [mW_with h]
  intro w hw
  rcases List.mem_cons.mp hw with rfl | hw
  · exact ⟨hc, tG_good _ hc⟩
  · exact ⟨hw, tG_good w hw⟩
theorem g_callSX {E : En} {M Z : Mt} {pc : Nat} {lv : List (Nat × Value)} {st st0 As : List Value} {h : Hp} {k n kz nz : Nat} {P P' : Option Value → Hp → Prop} {X X' : String → Hp → Prop} {idx na : Nat} (hd : decode (mC M) pc = .ok (.invokestatic idx, 3)) (hh : mHh M = []) (hz : MSX Z na) (hs : ST M idx Z) (hst : st0 = As.reverse ++ st) (hna : As.length = na) (hcat : (st.map fun v => v.category).sum ≤ 8)
    (hct : CT E Z As h kz nz P' X') (kx : ∀ (Cn : String) (h1 : Hp), X' Cn h1 → X Cn h1) (kk : ∀ (v : Option Value) (h1 : Hp), P' v h1 → G E M (pc + 3) lv (v.toList ++ st) h1 k n P X) : G E M pc lv st0 h (k + kz) (n + nz) P X := by
  intro p e R s m args below meth c H locs cells slots ls C r h1 h2 hl
  obtain ⟨z1, z2, z4, z5, z6⟩ := hz
  obtain ⟨s1, s2, s3⟩ := hs
  have hfr := C.2.2.2.2.2.2.2.2.2.2.2.2.1
  have hlo := C.2.2.2.2.2.2.2.2.2.2.2.2.2.1
  refine g_run C hh h1 h2 hl (vx_runSX (Ts := tG) (cc := mC M) (nL := mN M) (own := (mY M).cls) (As := As) (n := na) (index := idx) (hh := mHh Z) ⟨C.1, C.2.1, C.2.2.1, C.2.2.2.1, C.hts⟩ hct
    (vx_cwSW na C.hts (fun w hw => ?_) (mW_with z1) rfl rfl z6 ⟨by show mFr Z + 1 ≤ R.frames; omega, by show 8 + (mN Z + 11) + mLo Z ≤ R.locals; omega⟩)
    ⟨Inv.blind, fun U hU hW => ⟨rfl, inv_at C r U hU hW⟩⟩ rfl hna hl.1 hst (lv_room hcat) hd ⟨by omega, by omega⟩) kx kk
  simp only [va_wsS, List.cons_append, List.nil_append, List.mem_cons] at hw
  rcases hw with rfl | rfl | rfl | hw
  · exact ⟨s1, tG_good _ s1⟩
  · exact ⟨z2, tG_good _ z2⟩
  · exact ⟨z4, tG_good _ z4⟩
  · exact mW_goodX z1 z5 w hw
theorem ct_ofH {E : En} {Z : Mt} {av : List Value} {h : Hp} {k n : Nat} {P : Option Value → Hp → Prop} {X : String → Hp → Prop} (hz : mHh Z ≠ []) (hy : plainName (mY Z).cls = true) (hn : (lg_sl av).length ≤ mN Z) (body : G E Z 0 (lv_args 0 av) [] h k n P X) : CT E Z av h k n P X := by
  refine vx_ofWH (cc := mC Z) (maxL := mN Z) (ret := mRt Z) (hh := mHh Z) hy (mW_with hz) ?_
  intro p e s m args below meth c s₁ B hml hP
  obtain ⟨rfl, hrel, hK, hC, hB⟩ := hP
  have hts0 := atoms_spec (ws := mW Z) B.pre
  rw [mW_with hz] at hts0
  rw [lg_entry_eq]
  exact body p e _ s m _ below meth c s.heap [] 0 0 _ ⟨B.exec, B.bytes, hml, findClass_of_methodNamed B.named, fun w hw => hts0 w (List.mem_cons_of_mem _ hw), B.returns, B.notSynchronized, (name_of_methodNamed B.named B.method).1, vx_table (x := mY Z) B (hts0 _ List.mem_cons_self), hK, hC, hB, Nat.le_refl _, Nat.le_refl _, va_S.rf⟩ hrel (by show 0 + k ≤ k; omega) (by show 0 + n ≤ n; omega) (lv_entry av hn)
/-- the law's script -/
theorem g_sld {E : En} {M : Mt} {pc : Nat} {lv : List (Nat × Value)} {st : List Value} {h : Hp} {k n j : Nat} {P : Option Value → Hp → Prop} {X : String → Hp → Prop} (hj : j < eXl E) (hl : eXl E < 2 ^ 31) (hd : decode (mC M) pc = .ok (.iaload, 1))
    (kk : G E M (pc + 1) lv (.int (eXs E j) :: st) h k n P X) : G E M pc lv (.int (nI j) :: .ref (eXa E) :: st) h k n P X := by
  intro p e R s m args below meth c H locs cells slots ls C r h1 h2 hls
  have hX := C.cst.2.2.2.2.2.2.2.2.2.2.1
  exact va_sld C.1 C.2.1 hX (va_X.lt' hX) C.cst.2.2.2.2.2.2.2.2.2.2.2.1 C.hS (vp_in_nI hj hl) hd (by rw [nI_clamp (by omega)]; exact kk p e R s m args below meth c H locs cells slots ls C r h1 h2 hls)
theorem g_slen {E : En} {M : Mt} {pc : Nat} {lv : List (Nat × Value)} {st : List Value} {h : Hp} {k n : Nat} {P : Option Value → Hp → Prop} {X : String → Hp → Prop} (hd : decode (mC M) pc = .ok (.arraylength, 1))
    (kk : G E M (pc + 1) lv (.int (nI (eXl E)) :: st) h k n P X) : G E M pc lv (.ref (eXa E) :: st) h k n P X := by
  intro p e R s m args below meth c H locs cells slots ls C r h1 h2 hls
  have hX := C.cst.2.2.2.2.2.2.2.2.2.2.1
  exact va_slen C.1 C.2.1 hX (va_X.lt' hX) C.cst.2.2.2.2.2.2.2.2.2.2.2.1 C.hS hd (kk p e R s m args below meth c H locs cells slots ls C r h1 h2 hls)
