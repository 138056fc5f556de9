/-! ROWS: what the law and the JDK's texts want beside whole's; a call of an overriding method -/
section
variable {p : Program} {l : Launch} {e : Env} {R : Room} {s : State} {m : MethodId} {args : Array Value} {below : List Frame} {meth : Method} {c : Code} {H : Heap} {locs : List Loc} {cells slots : Nat}
theorem vx_callVU {T : State} {locs : List Loc} {cells slots : Nat} (X : Stand p l e R s m args below meth c T locs cells slots) (hexec : p.tables.exec = Jvm.exec) {own C owner : String} {index : Nat} {x y : MethodName} {bytes : ByteArray} {maxL : Nat} {ret : Option FieldType}
    (hown : s.vm.findClass own = some m.cls) (hlink : (Cond.methodLink own index x).before args s = true) (hsame : (Cond.sameMethod x.cls owner x.name x.desc).before args s = true)
    (hd0 : va_Decl s ⟨owner, x.name, x.desc⟩) (howner : owner ≠ "java/lang/invoke/MethodHandle" ∧ owner ≠ "java/lang/invoke/VarHandle")
    (hsel : (Cond.selects C x y).before args s = true) (hinst : (Cond.instanceMethod y).before args s = true) (_hcode : (Cond.code y bytes maxL ret).before args s = true)
    {W9 : Nat} {Pre : Pt → Array Value → Prop} {Post : Pt → Array Value → Option Value → Pt → Prop} {PostX : Pt → Array Value → Addr → Pt → Prop} (hK : vx_Back l R p e below s args y 3 W9 Pre Post PostX)
    {b : Addr} {cellB : Cell} (hcell : T.heap[b]? = some cellB) (hobj : cellB.vm.isStatics = false) (hcls : s.vm.findClass C = some cellB.cls)
    {g : JFrame} (hg : g.method = m) (hsize : g.locals.size = c.maxLocals) {argsL rest : List Value} (hlen : ∀ sig, parseMethodDescriptor x.desc = some sig → argsL.length = sig.parameters.length)
    (hstack : g.stack = argsL.reverse ++ .ref b :: rest) (hW : 2 * g.monitorRoom + (rest.map fun v => v.category).sum ≤ W9) (hdg : decode c.code g.pc = .ok (.invokevirtual index, 3))
    (hpre : ∀ vm₁, s.WarmedH vm₁ → Pre ⟨T.setVm vm₁, locs, cells, slots⟩ (Value.ref b :: argsL).toArray) :
    (∃ (v : Option Value) (vm₁ : Vm) (B : Pt), s.WarmedH vm₁ ∧ Stand p l e R s m args below meth c B.U B.locs B.cells B.slots ∧ Post ⟨T.setVm vm₁, locs, cells, slots⟩ (Value.ref b :: argsL).toArray v B ∧
      ∀ target, Steps p.tables e below (B.U.setTop { g with pc := g.pc + 3, stack := v.toList ++ rest }) target → Steps p.tables e below (T.setTop g) target) ∨
    (∃ (q : Addr) (vm₁ : Vm) (B : Pt), s.WarmedH vm₁ ∧ Stand p l e R s m args below meth c B.U B.locs B.cells B.slots ∧ PostX ⟨T.setVm vm₁, locs, cells, slots⟩ (Value.ref b :: argsL).toArray q B ∧
      Steps p.tables e below (T.setTop g) ((B.U.setTop { g with stack := rest }).pushFrame (.throwing q))) := by
  obtain ⟨r0, r, hn, hrm, hstR, hsigR⟩ := hd0
  obtain ⟨cn, ck, r1, hcn, hck, hni, hf, hn1⟩ := Cond.sameMethod_found hsame
  cases hn.symm.trans hn1
  obtain ⟨mk, methM, hnamed, hmethM, -, habM⟩ := Cond.instanceMethod_spec hinst
  obtain ⟨c2, r2, m2, q1, q2, q3, q4, kP, hkP, hkPi⟩ := Cond.selects_spec hsel
  cases hcls.symm.trans q1
  cases hf.symm.trans q2
  cases hnamed.symm.trans q3
  have hselP : selectMethod e.platform s.vm cellB.cls r0 = .method mk := by rw [Launch.admits_selectMethod X.admits]; exact q4
  obtain ⟨vm₁, X₁, hstep₁⟩ := X.invokevirtualUp hexec hown hlink hsame howner hn hrm hstR (a := b) (cell := cellB) hcell
    (fun z h => by rw [h] at hobj; cases hobj) hselP hmethM habM hkP hkPi (g := g) hg (argsL := argsL) (rest := rest) (hlen _ hsigR) hstack hdg
  rcases hK m meth c ⟨T.setVm vm₁, locs, cells, slots⟩ { g with stack := rest } (.invokevirtual index) mk (Value.ref b :: argsL).toArray X₁ hg hsize hdg hW (X₁.named hnamed) (hpre vm₁ X₁.warmed) with ⟨v, B, X', hpost, hsteps⟩ | ⟨q, B, X', hpost, hsteps⟩
  · exact Or.inl ⟨v, vm₁, B, X₁.warmed, X', hpost, fun target h => hstep₁ _ fun acts => by rw [doInvoke_state]; exact hsteps.trans h⟩
  · exact Or.inr ⟨q, vm₁, B, X₁.warmed, X', hpost, hstep₁ _ fun acts => by rw [doInvoke_state]; exact hsteps⟩
theorem vx_runU {x y : MethodName} {bytes cc : ByteArray} {maxL nL mc ms n index : Nat} {ret : Option FieldType} {ws : List Cond} {rm : Room} {Pc : Array Value → State → Prop} {Qc : Array Value → State → Outcome → State → Prop} {XC : String → State → State → Prop} {free : Addr → Prop} {Ts : List Cond} {own C owner : String} {b : Addr} {As rest : List Value} {g : JFrame}
    (S : CallFix p m c cc nL s args Ts own) (hM : vx_Met l y ws rm Pc Qc XC mc ms free) (cw : va_CU R s args own C owner index x y bytes maxL ret ws rm mc ms n) (hp : PreV s H C b Pc As)
    (hg : g.method = m) (hn : As.length = n) (hsize : g.locals.size = nL) (hstack : g.stack = As.reverse ++ .ref b :: rest) (hW : 2 * g.monitorRoom + (rest.map fun v => v.category).sum ≤ 8) (hdg : decode cc g.pc = .ok (.invokevirtual index, 3)) (hf : cells + mc ≤ R.cells ∧ slots + ms ≤ R.slots) :
    vx_Run p l e R s m args below meth c H locs cells slots mc ms g rest (Qc (Value.ref b :: As).toArray) XC free := by
  obtain ⟨hrc, hrs, hfr, hlo, hws, hcw⟩ := cw.back
  have hini := cw.init
  have hK : vx_Back l R p e below s args y 3 8 (PreOf R mc ms Pc) (PostOf Qc mc ms free) (vx_Post XC mc ms free) := vx_back (bytes := bytes) (maxL := maxL) (ret := ret) hM hp.1 hrc hrs hfr hlo hws hcw (fun a' U hW => word_at hW (Or.inl (by first | rfl | simp [Cond.onTables, Cond.keeps, Cond.steady])) hini)
  obtain ⟨hx, hb, hml, ho, -⟩ := S
  obtain ⟨-, ⟨cellB, hcB, hoB, hclB⟩, hPc⟩ := hp
  intro T hT X
  rcases vx_callVU X hx (C := C) (owner := owner) (bytes := bytes) (maxL := maxL) (ret := ret) ho cw.link cw.same cw.decl cw.notMH cw.sel cw.inst cw.code hK (by rw [hT]; exact hcB) hoB hclB hg (hsize.trans hml.symm) (argsL := As) (rest := rest) (fun sig h => hn.trans (cw.len sig h)) hstack hW (by rw [hb]; exact hdg)
    (fun vm₁ hW₁ => ⟨hf.1, hf.2, hPc (T.setVm vm₁) hT hW₁⟩) with ⟨v, vm₁, ⟨U', l2, c2, s2⟩, hW₁, X', ⟨g', mk, t, L, e1, e2, hq, h1, hL, h2, h3⟩, st⟩ | ⟨q, vm₁, ⟨U', l2, c2, s2⟩, hW₁, X', ⟨g', mk, t, L, E, ce, e1, e2, hq, hce, hcv, hcl, h1, hL, h2, h3⟩, st⟩
  · dsimp only [Pt.U, Pt.locs, Pt.cells, Pt.slots] at X' e1 e2 h1 h2 h3 st
    subst h1; subst h2; subst h3
    exact Or.inl ⟨v, (T.setVm vm₁).calling g' mk (Value.ref b :: As).toArray, t, U', L, hT, X', hL, e1, e2, hq, st⟩
  · dsimp only [Pt.U, Pt.locs, Pt.cells, Pt.slots] at X' e1 e2 h1 h2 h3 st hcl
    subst h1; subst h2; subst h3
    exact Or.inr ⟨q, (T.setVm vm₁).calling g' mk (Value.ref b :: As).toArray, t, U', L, E, ce, hT, X', hL, e1, e2, hq, hce, hcv, vx_cls hW₁ hcl, st⟩
end
/-- a call of AbstractStringBuilder's method Y on a StringBuilder whose class overrides it by Z -/
def MO (Y : MethodName) (b0 : ByteArray) (m0 : Nat) (r0 : Option FieldType) (Z : Mt) (na : Nat) : Prop := mHh Z = [] ∧ (Cond.sameMethod Y.cls Y.cls Y.name Y.desc ∈ tG ∧ Cond.instanceMethod Y ∈ tG ∧ Cond.code Y b0 m0 r0 ∈ tG ∧ Cond.selects "java/lang/StringBuilder" Y (mY Z) ∈ tG) ∧ Cond.instanceMethod (mY Z) ∈ tG ∧ Cond.initialized (mY Z).cls ∈ tG ∧ Cond.code (mY Z) (mC Z) (mN Z) (mRt Z) ∈ tG ∧ (Y.cls ≠ "java/lang/invoke/MethodHandle" ∧ Y.cls ≠ "java/lang/invoke/VarHandle" ∧ (parseMethodDescriptor Y.desc).map (fun d => d.parameters.length) = some na)
theorem g_callVO {E : En} {M Z : Mt} {pc : Nat} {lv : List (Nat × Value)} {st st0 As : List Value} {h : Hp} {k n kz nz : Nat} {P P' : Option Value → Hp → Prop} {X X' : String → Hp → Prop} {idx na b m0 : Nat} {Y : MethodName} {b0 : ByteArray} {r0 : Option FieldType} (hd : decode (mC M) pc = .ok (.invokevirtual idx, 3)) (hh : mHh M = []) (hz : MO Y b0 m0 r0 Z na) (hs : Cond.methodLink (mY M).cls idx Y ∈ tG ∧ mFr Z + 1 ≤ mFr M ∧ 8 + (mN Z + 11) + mLo Z ≤ mLo M) (hb : hK h b = 9) (hst : st0 = As.reverse ++ .ref b :: st) (hna : As.length = na) (hcat : (st.map fun v => v.category).sum ≤ 8)
    (hct : CT E Z (.ref b :: As) h kz nz P' X') (kx : ∀ (Cn : String) (h1 : Hp), X' Cn h1 → X Cn h1) (kk : ∀ (v : Option Value) (h1 : Hp), P' v h1 → G E M (pc + 3) lv (v.toList ++ st) h1 k n P X) : G E M pc lv st0 h (k + kz) (n + nz) P X := by
  intro p e R s m args below meth c H locs cells slots ls C r h1 h2 hl
  obtain ⟨z1, ⟨y1, y2, y3, y4⟩, z2, z4, z5, z6⟩ := hz
  obtain ⟨s1, s2, s3⟩ := hs
  obtain ⟨r', hr', cellV, g1, g2, g3, -⟩ := r.obj (ci := 8) hb (by decide)
  have hKn := C.hK.1 8 _ (rfl : cls[8]? = some _)
  have hfr := C.2.2.2.2.2.2.2.2.2.2.2.2.1
  have hlo := C.2.2.2.2.2.2.2.2.2.2.2.2.2.1
  refine g_run C hh h1 h2 hl (vx_runU (Ts := tG) (cc := mC M) (nL := mN M) (own := (mY M).cls) (C := "java/lang/StringBuilder") (owner := Y.cls) (x := Y) (As := As) (b := b) (n := na) (index := idx) (bytes := mC Z) (maxL := mN Z) (ret := mRt Z) ⟨C.1, C.2.1, C.2.2.1, C.2.2.2.1, C.hts⟩ hct
    ⟨⟨rfl, rfl, by show mFr Z + 1 ≤ R.frames; omega, by show 8 + (mN Z + 11) + mLo Z ≤ R.locals; omega, pay_in C.hts (mW_good z1 z5), by rw [mW_code z1]; exact List.mem_cons_self⟩, C.hts _ z5, C.hts _ z4, ⟨z6.1, z6.2.1⟩, fun sig hsig => ?_, C.hts _ s1, C.hts _ y1, va_Decl.of (C.hts _ y2) (C.hts _ y3), C.hts _ y4, C.hts _ z2⟩
    ⟨Inv.blind, ⟨cellV, g1, by rw [g3]; rfl, by rw [g2]; exact hKn.2.1⟩, fun U hU hW => ⟨rfl, inv_at C r U hU hW⟩⟩ rfl hna hl.1 hst (lv_room hcat) hd ⟨by omega, by omega⟩) kx kk
  have h9 := z6.2.2
  rw [hsig] at h9
  exact (Option.some.inj h9).symm
section
variable {E : En} {M : Mt} {pc : Nat} {lv : List (Nat × Value)} {st : List Value} {h : Hp} {k n : Nat} {P : Option Value → Hp → Prop} {X : String → Hp → Prop} {idx : Nat}
theorem g_ishl {x y : Int32} (hd : decode (mC M) pc = .ok (.ishl, 1)) (kk : G E M (pc + 1) lv (.int (x <<< (y &&& 31)) :: st) h k n P X) : G E M pc lv (.int y :: .int x :: st) h k n P X := by
  intro p e R s m args below meth c H locs cells slots ls C r h1 h2 hl
  exact lv_ishl C.1 C.2.1 hd (kk p e R s m args below meth c H locs cells slots ls C r h1 h2 hl)
theorem g_ior {x y : Int32} (hd : decode (mC M) pc = .ok (.ior, 1)) (kk : G E M (pc + 1) lv (.int (x ||| y) :: st) h k n P X) : G E M pc lv (.int y :: .int x :: st) h k n P X := by
  intro p e R s m args below meth c H locs cells slots ls C r h1 h2 hl
  exact lv_ior C.1 C.2.1 hd (kk p e R s m args below meth c H locs cells slots ls C r h1 h2 hl)
theorem g_lmul {x y : Int64} (hd : decode (mC M) pc = .ok (.lmul, 1)) (kk : G E M (pc + 1) lv (.long (x * y) :: st) h k n P X) : G E M pc lv (.long y :: .long x :: st) h k n P X := by
  intro p e R s m args below meth c H locs cells slots ls C r h1 h2 hl
  exact lv_lmul C.1 C.2.1 hd (kk p e R s m args below meth c H locs cells slots ls C r h1 h2 hl)
theorem g_ladd {x y : Int64} (hd : decode (mC M) pc = .ok (.ladd, 1)) (kk : G E M (pc + 1) lv (.long (x + y) :: st) h k n P X) : G E M pc lv (.long y :: .long x :: st) h k n P X := by
  intro p e R s m args below meth c H locs cells slots ls C r h1 h2 hl
  exact lv_ladd C.1 C.2.1 hd (kk p e R s m args below meth c H locs cells slots ls C r h1 h2 hl)
theorem g_lrem {x y : Int64} (hd : decode (mC M) pc = .ok (.lrem, 1)) (hy : ¬ y = 0) (kk : G E M (pc + 1) lv (.long (x - x / y * y) :: st) h k n P X) : G E M pc lv (.long y :: .long x :: st) h k n P X := by
  intro p e R s m args below meth c H locs cells slots ls C r h1 h2 hl
  exact lv_lrem C.1 C.2.1 hd hy (kk p e R s m args below meth c H locs cells slots ls C r h1 h2 hl)
theorem g_l2i {x : Int64} (hd : decode (mC M) pc = .ok (.l2i, 1)) (kk : G E M (pc + 1) lv (.int x.toInt32 :: st) h k n P X) : G E M pc lv (.long x :: st) h k n P X := by
  intro p e R s m args below meth c H locs cells slots ls C r h1 h2 hl
  exact lv_l2i C.1 C.2.1 hd rfl (kk p e R s m args below meth c H locs cells slots ls C r h1 h2 hl)
theorem g_ldc2 {v : Int64} (hd : decode (mC M) pc = .ok (.ldc2_w idx, 3)) (hw : Cond.constantLong (mY M).cls idx v ∈ tG) (kk : G E M (pc + 3) lv (.long v :: st) h k n P X) : G E M pc lv st h k n P X := by
  intro p e R s m args below meth c H locs cells slots ls C r h1 h2 hl
  exact lv_ldc2 C.1 C.2.1 C.2.2.2.1 (C.hts _ hw) hd (kk p e R s m args below meth c H locs cells slots ls C r h1 h2 hl)
theorem g_fcmp {x y : UInt32} {op : CmpOp} (hd : decode (mC M) pc = .ok (.fcmp op, 1)) (kk : G E M (pc + 1) lv (.int (Op.cmpValue (FP.fcmp x y) op) :: st) h k n P X) : G E M pc lv (.float y :: .float x :: st) h k n P X := by
  intro p e R s m args below meth c H locs cells slots ls C r h1 h2 hl
  exact lv_fcmp C.1 C.2.1 hd (kk p e R s m args below meth c H locs cells slots ls C r h1 h2 hl)
theorem g_alenT {a len : Nat} (hk : hK h a = 27) (hl : hL h a = len) (hd : decode (mC M) pc = .ok (.arraylength, 1)) (kk : G E M (pc + 1) lv (.int (nI len) :: st) h k n P X) : G E M pc lv (.ref a :: st) h k n P X := by
  intro p e R s m args below meth c H locs cells slots ls C r h1 h2 hls
  obtain ⟨cA, c1, c2, c3⟩ := r.arr hk (by omega)
  have c3 : H[a]? = some (arrV cA (hL h a) (fun j => va_rf (hR h a j))) := c3
  exact W.alen (n := nI len) C.1 C.2.1 c3 (c1 (hL h a) (fun j => va_rf (hR h a j))) (by rw [arrV_size, hl]; rfl) rfl rfl hd (kk p e R s m args below meth c H locs cells slots ls C r h1 h2 hls)
end
