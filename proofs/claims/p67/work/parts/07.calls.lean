/-! CALLS by contract, and a contract out of a walk -/
theorem mW_code {Z : Mt} (h : mHh Z = []) : mW Z = Cond.code (mY Z) (mC Z) (mN Z) (mRt Z) :: tG := by unfold mW; rw [if_pos h]
theorem mW_with {Z : Mt} (h : mHh Z ≠ []) : mW Z = Cond.codeWith (mY Z) (mC Z) (mN Z) (mRt Z) (mHh Z) :: tG := by unfold mW; rw [if_neg h]
theorem tG_self : GoodIn tG tG := fun w hw => ⟨hw, tG_good w hw⟩
theorem mW_good {Z : Mt} (h : mHh Z = []) (hc : Cond.code (mY Z) (mC Z) (mN Z) (mRt Z) ∈ tG) : GoodIn tG (mW Z) := by
  rw [mW_code h]
  intro w hw
  rcases List.mem_cons.mp hw with rfl | hw
  · exact ⟨hc, tG_good _ hc⟩
  · exact ⟨hw, tG_good w hw⟩
theorem CT.mono {E : En} {Z : Mt} {av : List Value} {h : Hp} {k n : Nat} {P P' : Option Value → Hp → Prop} {X X' : String → Hp → Prop} (c : CT E Z av h k n P X) (hp : ∀ v h, P v h → P' v h) (hx : ∀ C h, X C h → X' C h) : CT E Z av h k n P' X' := by
  intro p e a1 a2 a3 s m args below a4 a5 a6 a7
  obtain ⟨j, o, b1, b2, b3, b4⟩ := c p e a1 a2 a3 s m args below a4 a5 a6 a7
  refine ⟨j, o, b1, b2, b3, ?_⟩
  rcases b4 with ⟨⟨⟨v, h9, c1, c2, c3⟩, c4⟩, c5⟩ | ⟨q, c1, E9, ce, L, ⟨⟨h9, d1, d2⟩, d3⟩, c3⟩
  · exact Or.inl ⟨⟨⟨v, h9, c1, hp _ _ c2, c3⟩, c4⟩, c5⟩
  · exact Or.inr ⟨q, c1, E9, ce, L, ⟨⟨h9, hx _ _ d1, d2⟩, d3⟩, c3⟩
/-- no exception leaves it -/
def noX : String → Hp → Prop := fun _ _ => False
theorem inv_at {E : En} {M : Mt} {p : Program} {R : Room} {s : State} {m : MethodId} {args : Array Value} {meth : Method} {c : Code} {H : Heap} {locs : List Loc} {h : Hp} (C : Cx E M p R s m args meth c H locs) (r : Rel E s h H) : ∀ U : State, U.heap = H → s.WarmedH U.vm → Inv E h U := by
  intro U hU hW
  refine ⟨by rw [hU]; exact r.moved hW.alike, va_K.moved hW.alike C.hK, ?_, by rw [hU]; exact Nat.le_trans C.hB C.hS.1⟩
  rw [hU]
  exact (C.cst.kept (fun a h1 h2 => C.hS.2.1 a h1 h2)).warm hW
/-- what the tables say of a method: an instance method, a static one, a constructor -/
def MV (Z : Mt) (na : Nat) : Prop := mHh Z = [] ∧ Cond.instanceMethod (mY Z) ∈ tG ∧ Cond.selects (mY Z).cls (mY Z) (mY Z) ∈ tG ∧ Cond.initialized (mY Z).cls ∈ tG ∧ Cond.code (mY Z) (mC Z) (mN Z) (mRt Z) ∈ tG ∧ ((mY Z).cls ≠ "java/lang/invoke/MethodHandle" ∧ (mY Z).cls ≠ "java/lang/invoke/VarHandle" ∧ (parseMethodDescriptor (mY Z).desc).map (fun d => d.parameters.length) = some na)
def MS (Z : Mt) (na : Nat) : Prop := mHh Z = [] ∧ Cond.static (mY Z) ∈ tG ∧ Cond.initialized (mY Z).cls ∈ tG ∧ Cond.code (mY Z) (mC Z) (mN Z) (mRt Z) ∈ tG ∧ ((mY Z).cls ≠ "java/lang/invoke/MethodHandle" ∧ (mY Z).cls ≠ "java/lang/invoke/VarHandle" ∧ (parseMethodDescriptor (mY Z).desc).map (fun d => d.parameters.length) = some na)
def MI (Z : Mt) (na : Nat) : Prop := mHh Z = [] ∧ mRt Z = none ∧ (mY Z).name = "<init>" ∧ Cond.instanceMethod (mY Z) ∈ tG ∧ Cond.initialized (mY Z).cls ∈ tG ∧ Cond.code (mY Z) (mC Z) (mN Z) (mRt Z) ∈ tG ∧ ((mY Z).cls ≠ "java/lang/invoke/MethodHandle" ∧ (mY Z).cls ≠ "java/lang/invoke/VarHandle" ∧ (parseMethodDescriptor (mY Z).desc).map (fun d => d.parameters.length) = some na)
/-- a call's place: the link, and the callee's frames and words within the caller's -/
def ST (M : Mt) (idx : Nat) (Z : Mt) : Prop := Cond.methodLink (mY M).cls idx (mY Z) ∈ tG ∧ mFr Z + 1 ≤ mFr M ∧ 8 + (mN Z + 11) + mLo Z ≤ mLo M
def STN (M : Mt) (idx : Nat) (Z : Mt) : Prop := (∃ host : String, Cond.methodLinkNest (mY M).cls idx (mY Z) host ∈ tN) ∧ mFr Z + 1 ≤ mFr M ∧ 8 + (mN Z + 11) + mLo Z ≤ mLo M
theorem g_run {E : En} {M : Mt} {pc : Nat} {lv : List (Nat × Value)} {st st0 : List Value} {k n kz nz : Nat} {P P' : Option Value → Hp → Prop} {X X' : String → Hp → Prop} {p : Program} {e : Env} {R : Room} {s : State} {m : MethodId} {args : Array Value} {below : List Frame} {meth : Method} {c : Code} {H : Heap} {locs : List Loc} {cells slots : Nat} {ls : Array Slot} {a : Array Value}
    (C : Cx E M p R s m args meth c H locs) (hh : mHh M = []) (h1 : cells + (k + kz) ≤ R.cells) (h2 : slots + (n + nz) ≤ R.slots) (hl : lv_has ls (mN M) lv)
    (hr : vx_Run p (eL E) e R s m args below meth c H locs cells slots kz nz (F0 m pc ls st0) st (gQ E P' a) (gX E X') (gA E)) (kx : ∀ (Cn : String) (h1 : Hp), X' Cn h1 → X Cn h1) (kk : ∀ (v : Option Value) (h1 : Hp), P' v h1 → G E M (pc + 3) lv (v.toList ++ st) h1 k n P X) :
    W p (eL E) e R s m args below meth c H locs cells slots (vx_MQ below (gQ E P) (gX E X) args s R.cells R.slots (gA E)) (F0 m pc ls st0) := by
  intro T hT X9
  rcases hr T hT X9 with ⟨v, st₀, t, T', L, h0, X', hL, e1, e2, ⟨⟨v', h', hv, hp, hrel⟩, hF⟩, st'⟩ | ⟨q, st₀, t, T', L, Ec, ce, h0, X', hL, e1, e2, ⟨⟨h', hp, hrel⟩, hF⟩, hce, hcv, hcl, st'⟩
  · cases hv
    obtain ⟨k1, k2, k3⟩ := vx_keep h0 e1 C.hS (fun q _ z => z) (fun q z => z) hL hF
    have hal : s.vm.Alike t.vm := by rw [← e2]; exact X'.warmed.alike
    obtain ⟨t2, a1, b1⟩ := kk v h' hp p e R s m args below meth c T'.heap (locs ++ L) (cells + kz) (slots + nz) ls (C.to k3) (by rw [e1]; exact hrel.moved hal.symm) (by omega) (by omega) hl T' rfl X'
    exact ⟨t2, st' t2 a1, b1⟩
  · obtain ⟨k1, k2, k3⟩ := vx_keep h0 e1 C.hS (fun q _ z => z) (fun q z => z) hL hF
    have hal : s.vm.Alike t.vm := by rw [← e2]; exact X'.warmed.alike
    have ht : ∀ x ∈ c.exceptionTable.toList, covers x pc = false := by
      rw [C.2.2.2.2.2.2.2.2.1, hh]
      intro x hx
      cases hx
    obtain ⟨t2, a1, b1⟩ := vx_out (Qc := gQ E P) (XC := gX E X) (H := T'.heap) (locs := locs ++ L) (cells := cells + kz) (slots := slots + nz) (mc := R.cells) (ms := R.slots) (free := gA E) (ls := ls) (rest := st) (below := below) (args := args) (pc := pc) ht C.2.2.2.2.2.2.1 (by rw [e1]; exact hce) hcv hcl (fun t3 ht3 hal3 => ⟨⟨h', kx _ _ hp, by rw [ht3, e1]; exact (hrel.moved hal.symm).moved hal3⟩, k3.F ht3⟩) k3.2.2 (by omega) (by omega) T' rfl X'
    exact ⟨t2, st'.trans a1, b1⟩
theorem g_callV {E : En} {M Z : Mt} {pc : Nat} {lv : List (Nat × Value)} {st st0 As : List Value} {h : Hp} {k n kz nz : Nat} {P P' : Option Value → Hp → Prop} {X X' : String → Hp → Prop} {idx na ci b : Nat} {q : vw_C} (hd : decode (mC M) pc = .ok (.invokevirtual idx, 3)) (hh : mHh M = []) (hz : MV Z na) (hs : ST M idx Z) (hq : cls[ci]? = some q) (hq1 : q.1 = (mY Z).cls) (hci : ci < 19) (hb : hK h b = ci + 1) (hst : st0 = As.reverse ++ .ref b :: st) (hna : As.length = na) (hcat : (st.map fun v => v.category).sum ≤ 8)
    (hct : CT E Z (.ref b :: As) h kz nz P' X') (kx : ∀ (Cn : String) (h1 : Hp), X' Cn h1 → X Cn h1) (kk : ∀ (v : Option Value) (h1 : Hp), P' v h1 → G E M (pc + 3) lv (v.toList ++ st) h1 k n P X) : G E M pc lv st0 h (k + kz) (n + nz) P X := by
  intro p e R s m args below meth c H locs cells slots ls C r h1 h2 hl
  obtain ⟨z1, z2, z3, z4, z5, z6⟩ := hz
  obtain ⟨s1, s2, s3⟩ := hs
  obtain ⟨r', hr', cellV, g1, g2, g3, -⟩ := r.obj hb hci
  have hfc := (C.hK.1 ci q hq).2.1
  have hfr := C.2.2.2.2.2.2.2.2.2.2.2.2.1
  have hlo := C.2.2.2.2.2.2.2.2.2.2.2.2.2.1
  refine g_run C hh h1 h2 hl (vx_runV (Ts := tG) (cc := mC M) (nL := mN M) (own := (mY M).cls) (C := (mY Z).cls) (As := As) (b := b) (n := na) (index := idx) ⟨C.1, C.2.1, C.2.2.1, C.2.2.2.1, C.hts⟩ hct
    (cwV na C.hts (fun w hw => ?_) (mW_code z1) rfl rfl ⟨rfl, z6⟩ ⟨by show mFr Z + 1 ≤ R.frames; omega, by show 8 + (mN Z + 11) + mLo Z ≤ R.locals; omega⟩)
    ⟨Inv.blind, ⟨cellV, g1, by rw [g3]; rfl, by rw [← hq1, g2]; exact hfc⟩, fun U hU hW => ⟨rfl, inv_at C r U hU hW⟩⟩ rfl hna hl.1 hst (lv_room hcat) hd ⟨by omega, by omega⟩) kx kk
  simp only [wsV, List.cons_append, List.nil_append, List.mem_cons] at hw
  rcases hw with rfl | rfl | rfl | rfl | hw
  · exact ⟨s1, tG_good _ s1⟩
  · exact ⟨z2, tG_good _ z2⟩
  · exact ⟨z3, tG_good _ z3⟩
  · exact ⟨z4, tG_good _ z4⟩
  · exact mW_good z1 z5 w hw
theorem g_callS {E : En} {M Z : Mt} {pc : Nat} {lv : List (Nat × Value)} {st st0 As : List Value} {h : Hp} {k n kz nz : Nat} {P P' : Option Value → Hp → Prop} {X X' : String → Hp → Prop} {idx na : Nat} (hd : decode (mC M) pc = .ok (.invokestatic idx, 3)) (hh : mHh M = []) (hz : MS Z na) (hs : ST M idx Z) (hst : st0 = As.reverse ++ st) (hna : As.length = na) (hcat : (st.map fun v => v.category).sum ≤ 8)
    (hct : CT E Z As h kz nz P' X') (kx : ∀ (Cn : String) (h1 : Hp), X' Cn h1 → X Cn h1) (kk : ∀ (v : Option Value) (h1 : Hp), P' v h1 → G E M (pc + 3) lv (v.toList ++ st) h1 k n P X) : G E M pc lv st0 h (k + kz) (n + nz) P X := by
  intro p e R s m args below meth c H locs cells slots ls C r h1 h2 hl
  obtain ⟨z1, z2, z4, z5, z6⟩ := hz
  obtain ⟨s1, s2, s3⟩ := hs
  have hfr := C.2.2.2.2.2.2.2.2.2.2.2.2.1
  have hlo := C.2.2.2.2.2.2.2.2.2.2.2.2.2.1
  refine g_run C hh h1 h2 hl (vx_runS (Ts := tG) (cc := mC M) (nL := mN M) (own := (mY M).cls) (As := As) (n := na) (index := idx) ⟨C.1, C.2.1, C.2.2.1, C.2.2.2.1, C.hts⟩ hct
    (va_cwS na C.hts (fun w hw => ?_) (mW_code z1) rfl rfl z6 ⟨by show mFr Z + 1 ≤ R.frames; omega, by show 8 + (mN Z + 11) + mLo Z ≤ R.locals; omega⟩)
    ⟨Inv.blind, fun U hU hW => ⟨rfl, inv_at C r U hU hW⟩⟩ rfl hna hl.1 hst (lv_room hcat) hd ⟨by omega, by omega⟩) kx kk
  simp only [va_wsS, List.cons_append, List.nil_append, List.mem_cons] at hw
  rcases hw with rfl | rfl | rfl | hw
  · exact ⟨s1, tG_good _ s1⟩
  · exact ⟨z2, tG_good _ z2⟩
  · exact ⟨z4, tG_good _ z4⟩
  · exact mW_good z1 z5 w hw
theorem g_callI {E : En} {M Z : Mt} {pc : Nat} {lv : List (Nat × Value)} {st st0 As : List Value} {h : Hp} {k n kz nz : Nat} {P P' : Option Value → Hp → Prop} {X X' : String → Hp → Prop} {idx na b : Nat} (hd : decode (mC M) pc = .ok (.invokespecial idx, 3)) (hh : mHh M = []) (hz : MI Z na) (hs : ST M idx Z) (hst : st0 = As.reverse ++ .ref b :: st) (hna : As.length = na) (hcat : (st.map fun v => v.category).sum ≤ 8)
    (hct : CT E Z (.ref b :: As) h kz nz P' X') (kx : ∀ (Cn : String) (h1 : Hp), X' Cn h1 → X Cn h1) (kk : ∀ (v : Option Value) (h1 : Hp), P' v h1 → G E M (pc + 3) lv (v.toList ++ st) h1 k n P X) : G E M pc lv st0 h (k + kz) (n + nz) P X := by
  intro p e R s m args below meth c H locs cells slots ls C r h1 h2 hl
  obtain ⟨z1, z7, z8, z2, z4, z5, z6⟩ := hz
  obtain ⟨s1, s2, s3⟩ := hs
  have hfr := C.2.2.2.2.2.2.2.2.2.2.2.2.1
  have hlo := C.2.2.2.2.2.2.2.2.2.2.2.2.2.1
  exact g_run C hh h1 h2 hl (vx_runI (Ts := tG) (cc := mC M) (nL := mN M) (own := (mY M).cls) (As := As) (b := b) (n := na) (index := idx) ⟨C.1, C.2.1, C.2.2.1, C.2.2.2.1, C.hts⟩ hct
    (cwI na C.hts (mW_good z1 z5) (by rw [mW_code z1, z7]) rfl rfl (C.hts _ z4) (C.hts _ s1) (C.hts _ z2) z8 z6 ⟨by show mFr Z + 1 ≤ R.frames; omega, by show 8 + (mN Z + 11) + mLo Z ≤ R.locals; omega⟩)
    ⟨Inv.blind, fun U hU hW => ⟨rfl, inv_at C r U hU hW⟩⟩ rfl hna hl.1 hst (lv_room hcat) hd ⟨by omega, by omega⟩) kx kk
theorem g_callIN {E : En} {M Z : Mt} {pc : Nat} {lv : List (Nat × Value)} {st st0 As : List Value} {h : Hp} {k n kz nz : Nat} {P P' : Option Value → Hp → Prop} {X X' : String → Hp → Prop} {idx na b : Nat} (hd : decode (mC M) pc = .ok (.invokespecial idx, 3)) (hh : mHh M = []) (hz : MI Z na) (hs : STN M idx Z) (hst : st0 = As.reverse ++ .ref b :: st) (hna : As.length = na) (hcat : (st.map fun v => v.category).sum ≤ 8)
    (hct : CT E Z (.ref b :: As) h kz nz P' X') (kx : ∀ (Cn : String) (h1 : Hp), X' Cn h1 → X Cn h1) (kk : ∀ (v : Option Value) (h1 : Hp), P' v h1 → G E M (pc + 3) lv (v.toList ++ st) h1 k n P X) : G E M pc lv st0 h (k + kz) (n + nz) P X := by
  intro p e R s m args below meth c H locs cells slots ls C r h1 h2 hl
  obtain ⟨z1, z7, z8, z2, z4, z5, z6⟩ := hz
  obtain ⟨⟨host, s1⟩, s2, s3⟩ := hs
  have hfr := C.2.2.2.2.2.2.2.2.2.2.2.2.1
  have hlo := C.2.2.2.2.2.2.2.2.2.2.2.2.2.1
  exact g_run C hh h1 h2 hl (vx_runIN (Ts := tG) (cc := mC M) (nL := mN M) (own := (mY M).cls) (As := As) (b := b) (n := na) (index := idx) ⟨C.1, C.2.1, C.2.2.1, C.2.2.2.1, C.hts⟩ hct
    ⟨va_cnB na C.hts (mW_good z1 z5) (by rw [mW_code z1, z7]) rfl rfl (C.cst.1 _ s1) (C.hts _ z4) z6 ⟨by show mFr Z + 1 ≤ R.frames; omega, by show 8 + (mN Z + 11) + mLo Z ≤ R.locals; omega⟩, z8, C.hts _ z2⟩
    ⟨Inv.blind, fun U hU hW => ⟨rfl, inv_at C r U hU hW⟩⟩ rfl hna hl.1 hst (lv_room hcat) hd ⟨by omega, by omega⟩) kx kk
/-- 'invokespecial Object.<init>' does nothing -/
theorem g_objInit {E : En} {M : Mt} {pc : Nat} {lv : List (Nat × Value)} {st : List Value} {h : Hp} {k n : Nat} {P : Option Value → Hp → Prop} {X : String → Hp → Prop} {idx a : Nat} (hd : decode (mC M) pc = .ok (.invokespecial idx, 3)) (hl : Cond.methodLink (mY M).cls idx objectInit ∈ tG ∧ Cond.instanceMethod objectInit ∈ tG ∧ Cond.code objectInit ⟨#[0xb1]⟩ 1 none ∈ tG) (hfr : 1 ≤ mFr M) (hlo : 20 ≤ mLo M) (hcat : (st.map fun v => v.category).sum ≤ 8)
    (kk : G E M (pc + 3) lv st h k n P X) : G E M pc lv (.ref a :: st) h k n P X := by
  intro p e R s m args below meth c H locs cells slots ls C r h1 h2 hls
  have hfr2 := C.2.2.2.2.2.2.2.2.2.2.2.2.1
  have hlo2 := C.2.2.2.2.2.2.2.2.2.2.2.2.2.1
  exact W.objInit C.1 C.2.1 C.2.2.2.1 (C.hts _ hl.1) (C.hts _ hl.2.1) (C.hts _ hl.2.2) rfl (by rw [C.2.2.1]; exact hls.1) rfl hd (by omega) (by have := lv_room (m := m) (pc := pc) (ls := ls) (rest := st) hcat; show 2 * 0 + _ + 12 ≤ R.locals; omega) (kk p e R s m args below meth c H locs cells slots ls C r h1 h2 hls)
/-- THE CONTRACT OUT OF THE WALK -/
theorem ct_of {E : En} {Z : Mt} {av : List Value} {h : Hp} {k n : Nat} {P : Option Value → Hp → Prop} {X : String → Hp → Prop} (hz : mHh Z = []) (hy : plainName (mY Z).cls = true) (hn : (lg_sl av).length ≤ mN Z) (body : G E Z 0 (lv_args 0 av) [] h k n P X) : CT E Z av h k n P X := by
  refine vx_ofW (cc := mC Z) (maxL := mN Z) (ret := mRt Z) hy (mW_code hz) ?_
  intro p e s m args below meth c s₁ B hml ht hP
  obtain ⟨rfl, hrel, hK, hC, hB⟩ := hP
  have hts0 := atoms_spec (ws := mW Z) B.pre
  rw [mW_code hz] at hts0
  rw [lg_entry_eq]
  refine body p e _ s m _ below meth c s.heap [] 0 0 _ ⟨B.exec, B.bytes, hml, findClass_of_methodNamed B.named, fun w hw => hts0 w (List.mem_cons_of_mem _ hw), B.returns, B.notSynchronized, (name_of_methodNamed B.named B.method).1, ?_, hK, hC, hB, Nat.le_refl _, Nat.le_refl _, va_S.rf⟩ hrel (by show 0 + k ≤ k; omega) (by show 0 + n ≤ n; omega) (lv_entry av hn)
  rw [hz]
  cases hx : c.exceptionTable.toList with
  | nil => rfl
  | cons x l => exact (ht x (by rw [hx]; exact List.mem_cons_self)).elim
