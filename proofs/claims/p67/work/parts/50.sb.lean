/-! THE JDK: StringBuilder -/
/-! ===== BEGIN super.m(..) that may throw (follows va_callSU, va_runSU) ===== -/
section
variable {p : Program} {l : Launch} {e : Env} {R : Room} {s : State} {m : MethodId} {args : Array Value} {below : List Frame} {meth : Method} {c : Code} {H : Heap} {locs : List Loc} {cells slots : Nat}
theorem vx_callSU {T : State} {locs : List Loc} {cells slots : Nat} (X : Stand p l e R s m args below meth c T locs cells slots) (hexec : p.tables.exec = Jvm.exec) {own : String} {index : Nat} {y : MethodName} {bytes : ByteArray} {maxL : Nat} {ret : Option FieldType}
    (hown : s.vm.findClass own = some m.cls) (hlink : (Cond.methodLink own index y).before args s = true) (hsame : (Cond.sameMethod y.cls y.cls y.name y.desc).before args s = true) (hsup : (Cond.superclass own y.cls).before args s = true)
    (hinst : (Cond.instanceMethod y).before args s = true) (hcode : (Cond.code y bytes maxL ret).before args s = true) (hno : y.name ≠ "<init>")
    {W : Nat} {Pre : Pt → Array Value → Prop} {Post : Pt → Array Value → Option Value → Pt → Prop} {PostX : Pt → Array Value → Addr → Pt → Prop} (hK : vx_Back l R p e below s args y 3 W Pre Post PostX)
    {b : Addr} {cellB : Cell} {kB : Class} (hcell : T.heap[b]? = some cellB) (hobj : cellB.vm.isStatics = false) (hkB : s.vm.classes[cellB.cls]? = some kB)
    {g : JFrame} (hg : g.method = m) (hsize : g.locals.size = c.maxLocals) {argsL rest : List Value} (hlen : ∀ sig, parseMethodDescriptor y.desc = some sig → argsL.length = sig.parameters.length)
    (hstack : g.stack = argsL.reverse ++ .ref b :: rest) (hW : 2 * g.monitorRoom + (rest.map fun v => v.category).sum ≤ W) (hdg : decode c.code g.pc = .ok (.invokespecial index, 3))
    (hpre : ∀ vm₁, s.WarmedH vm₁ → Pre ⟨T.setVm vm₁, locs, cells, slots⟩ (Value.ref b :: argsL).toArray) :
    (∃ (v : Option Value) (vm₁ : Vm) (B : Pt), s.WarmedH vm₁ ∧ Stand p l e R s m args below meth c B.U B.locs B.cells B.slots ∧ Post ⟨T.setVm vm₁, locs, cells, slots⟩ (Value.ref b :: argsL).toArray v B ∧
      ∀ target, Steps p.tables e below (B.U.setTop { g with pc := g.pc + 3, stack := v.toList ++ rest }) target → Steps p.tables e below (T.setTop g) target) ∨
    (∃ (q : Addr) (vm₁ : Vm) (B : Pt), s.WarmedH vm₁ ∧ Stand p l e R s m args below meth c B.U B.locs B.cells B.slots ∧ PostX ⟨T.setVm vm₁, locs, cells, slots⟩ (Value.ref b :: argsL).toArray q B ∧
      Steps p.tables e below (T.setTop g) ((B.U.setTop { g with stack := rest }).pushFrame (.throwing q))) := by
  obtain ⟨mk, methM, hnamed, hmethM, hstM, habM⟩ := Cond.instanceMethod_spec hinst
  obtain ⟨methM', cM, hmethM', -, -, -, -, -, -, hsigM⟩ := Cond.code_spec hnamed hcode
  cases hmethM.symm.trans hmethM'
  obtain ⟨ps, dk, kp, hps, hdk, hkp, hsuper, -, -, hnid⟩ := Cond.superclass_spec hown hsup
  have hn : s.methodNamed? ⟨y.cls, y.name, y.desc⟩ = some mk := hnamed
  have hpm : ps = mk.cls := Option.some.inj (hps.symm.trans (findClass_of_methodNamed hnamed))
  have hsub : s.vm.isSubclass ps mk.cls = true := by rw [hpm]; simp [Vm.isSubclass, Vm.isSubclassAux]
  obtain ⟨vm₁, X₁, hstep₁⟩ := X.invokespecialUp hexec hown hlink hsame hn hmethM hstM habM hno hdk hnid hps hsuper hsub (a := b) (cell := cellB) hcell
    (fun z h => by rw [h] at hobj; cases hobj) hkB (g := g) hg (argsL := argsL) (rest := rest) (hlen _ hsigM) hstack hdg
  rcases hK m meth c ⟨T.setVm vm₁, locs, cells, slots⟩ { g with stack := rest } (.invokespecial index) mk (Value.ref b :: argsL).toArray X₁ hg hsize hdg hW (X₁.named hnamed) (hpre vm₁ X₁.warmed) with ⟨v, B, X', hpost, hsteps⟩ | ⟨q, B, X', hpost, hsteps⟩
  · exact Or.inl ⟨v, vm₁, B, X₁.warmed, X', hpost, fun target h => hstep₁ _ (by rw [doInvoke_state]; exact hsteps.trans h)⟩
  · exact Or.inr ⟨q, vm₁, B, X₁.warmed, X', hpost, hstep₁ _ (by rw [doInvoke_state]; exact hsteps)⟩
theorem vx_runSU {y : MethodName} {bytes cc : ByteArray} {maxL nL mc ms n index : Nat} {ret : Option FieldType} {ws : List Cond} {rm : Room} {Pc : Array Value → State → Prop} {Qc : Array Value → State → Outcome → State → Prop} {XC : String → State → State → Prop} {free : Addr → Prop} {Ts : List Cond} {own C : String} {cC : ClassId} {b : Addr} {As rest : List Value} {g : JFrame}
    (hat : ClassAt s C cC) (S : CallFix p m c cc nL s args Ts own) (hM : vx_Met l y ws rm Pc Qc XC mc ms free) (cw : va_CS R s args own index y bytes maxL ret ws rm mc ms n) (hp : PreV s H C b Pc As)
    (hg : g.method = m) (hn : As.length = n) (hsize : g.locals.size = nL) (hstack : g.stack = As.reverse ++ .ref b :: rest) (hW : 2 * g.monitorRoom + (rest.map fun v => v.category).sum ≤ 8) (hdg : decode cc g.pc = .ok (.invokespecial index, 3)) (hf : cells + mc ≤ R.cells ∧ slots + ms ≤ R.slots) :
    vx_Run p l e R s m args below meth c H locs cells slots mc ms g rest (Qc (Value.ref b :: As).toArray) XC free := by
  obtain ⟨⟨hrc, hrs, hfr, hlo, hws, hcw⟩, hl1, hl2, hl3, hl4, hini, hcode, hno, hlen⟩ := cw
  have hK : vx_Back l R p e below s args y 3 8 (PreOf R mc ms Pc) (PostOf Qc mc ms free) (vx_Post XC mc ms free) := vx_back (bytes := bytes) (maxL := maxL) (ret := ret) hM hp.1 hrc hrs hfr hlo hws hcw (fun a' U hW => word_at hW (Or.inl (by first | rfl | simp [Cond.onTables, Cond.keeps, Cond.steady])) hini)
  obtain ⟨hx, hb, hml, ho, -⟩ := S
  obtain ⟨-, ⟨cellB, hcB, hoB, hclB⟩, hPc⟩ := hp
  obtain ⟨hfc, kB, hkB, -⟩ := hat
  cases hfc.symm.trans hclB
  intro T hT X
  rcases vx_callSU X hx (bytes := bytes) (maxL := maxL) (ret := ret) ho hl1 hl2 hl3 hl4 hcode hno hK (by rw [hT]; exact hcB) hoB hkB hg (hsize.trans hml.symm) (argsL := As) (rest := rest) (fun sig h => hn.trans (hlen sig h)) hstack hW (by rw [hb]; exact hdg)
    (fun vm₁ hW₁ => ⟨hf.1, hf.2, hPc (T.setVm vm₁) hT hW₁⟩) with ⟨v, vm₁, ⟨U', l2, c2, s2⟩, hW₁, X', ⟨g', mk, t, L, e1, e2, hq, h1, hL, h2, h3⟩, st⟩ | ⟨q, vm₁, ⟨U', l2, c2, s2⟩, hW₁, X', ⟨g', mk, t, L, E, ce, e1, e2, hq, hce, hcv, hcl, h1, hL, h2, h3⟩, st⟩
  · dsimp only [Pt.U, Pt.locs, Pt.cells, Pt.slots] at X' e1 e2 h1 h2 h3 st
    subst h1; subst h2; subst h3
    exact Or.inl ⟨v, (T.setVm vm₁).calling g' mk (Value.ref b :: As).toArray, t, U', L, hT, X', hL, e1, e2, hq, st⟩
  · dsimp only [Pt.U, Pt.locs, Pt.cells, Pt.slots] at X' e1 e2 h1 h2 h3 st hcl
    subst h1; subst h2; subst h3
    exact Or.inr ⟨q, (T.setVm vm₁).calling g' mk (Value.ref b :: As).toArray, t, U', L, E, ce, hT, X', hL, e1, e2, hq, hce, hcv, vx_cls hW₁ hcl, st⟩
end
/-- super.m() on a StringBuilder, AbstractStringBuilder's own methods -/
def MU (Z : Mt) (na : Nat) : Prop := mHh Z = [] ∧ Cond.instanceMethod (mY Z) ∈ tG ∧ Cond.sameMethod (mY Z).cls (mY Z).cls (mY Z).name (mY Z).desc ∈ tG ∧ Cond.superclass "java/lang/StringBuilder" (mY Z).cls ∈ tG ∧ Cond.initialized (mY Z).cls ∈ tG ∧ Cond.code (mY Z) (mC Z) (mN Z) (mRt Z) ∈ tG ∧ ((mY Z).name ≠ "<init>" ∧ (parseMethodDescriptor (mY Z).desc).map (fun d => d.parameters.length) = some na)
theorem g_callSU {E : En} {M Z : Mt} {pc : Nat} {lv : List (Nat × Value)} {st st0 As : List Value} {h : Hp} {k n kz nz : Nat} {P P' : Option Value → Hp → Prop} {X X' : String → Hp → Prop} {idx na b : Nat} (hd : decode (mC M) pc = .ok (.invokespecial idx, 3)) (hh : mHh M = []) (ho : (mY M).cls = "java/lang/StringBuilder") (hz : MU Z na) (hs : ST M idx Z) (hb : hK h b = 9) (hst : st0 = As.reverse ++ .ref b :: st) (hna : As.length = na) (hcat : (st.map fun v => v.category).sum ≤ 8)
    (hct : CT E Z (.ref b :: As) h kz nz P' X') (kx : ∀ (Cn : String) (h1 : Hp), X' Cn h1 → X Cn h1) (kk : ∀ (v : Option Value) (h1 : Hp), P' v h1 → G E M (pc + 3) lv (v.toList ++ st) h1 k n P X) : G E M pc lv st0 h (k + kz) (n + nz) P X := by
  intro p e R s m args below meth c H locs cells slots ls C r h1 h2 hl
  obtain ⟨z1, z2, z3, z4, z5, z6, z7⟩ := hz
  obtain ⟨s1, s2, s3⟩ := hs
  obtain ⟨r', hr', cellV, g1, g2, g3, -⟩ := r.obj (ci := 8) hb (by decide)
  have hKn := C.hK.1 8 _ (rfl : cls[8]? = some _)
  have hfr := C.2.2.2.2.2.2.2.2.2.2.2.2.1
  have hlo := C.2.2.2.2.2.2.2.2.2.2.2.2.2.1
  refine g_run C hh h1 h2 hl (vx_runSU (Ts := tG) (cc := mC M) (nL := mN M) (own := (mY M).cls) (C := "java/lang/StringBuilder") (As := As) (b := b) (n := na) (index := idx) (cC := (eD E).1 8) hKn.2 ⟨C.1, C.2.1, C.2.2.1, C.2.2.2.1, C.hts⟩ hct
    (va_cwSU na C.hts (fun w hw => ?_) (mW_code z1) rfl rfl z7 ⟨by show mFr Z + 1 ≤ R.frames; omega, by show 8 + (mN Z + 11) + mLo Z ≤ R.locals; omega⟩)
    ⟨Inv.blind, ⟨cellV, g1, by rw [g3]; rfl, by rw [g2]; exact hKn.2.1⟩, fun U hU hW => ⟨rfl, inv_at C r U hU hW⟩⟩ rfl hna hl.1 hst (lv_room hcat) hd ⟨by omega, by omega⟩) kx kk
  simp only [va_wsSU, List.cons_append, List.nil_append, List.mem_cons] at hw
  rw [ho] at hw
  rcases hw with rfl | rfl | rfl | rfl | rfl | hw
  · rw [ho] at s1; exact ⟨s1, tG_good _ s1⟩
  · exact ⟨z3, tG_good _ z3⟩
  · exact ⟨z4, tG_good _ z4⟩
  · exact ⟨z2, tG_good _ z2⟩
  · exact ⟨z5, tG_good _ z5⟩
  · exact mW_good z1 z6 w hw
def yL1 : MethodName := { cls := "java/lang/AbstractStringBuilder", name := "isLatin1", desc := "()Z" }
theorem sel_L1 : Cond.selects "java/lang/StringBuilder" yL1 yL1 ∈ tG := tg_3 77 rfl rfl
def MP (Z : Mt) (na : Nat) : Prop := mHh Z = [] ∧ Cond.instanceMethod (mY Z) ∈ tG ∧ Cond.initialized (mY Z).cls ∈ tG ∧ Cond.code (mY Z) (mC Z) (mN Z) (mRt Z) ∈ tG ∧ ((mY Z).cls ≠ "java/lang/invoke/MethodHandle" ∧ (mY Z).cls ≠ "java/lang/invoke/VarHandle" ∧ (parseMethodDescriptor (mY Z).desc).map (fun d => d.parameters.length) = some na)
/-- a call of an AbstractStringBuilder's own method on a StringBuilder -/
theorem g_callVA {E : En} {M Z : Mt} {pc : Nat} {lv : List (Nat × Value)} {st st0 As : List Value} {h : Hp} {k n kz nz : Nat} {P P' : Option Value → Hp → Prop} {X X' : String → Hp → Prop} {idx na b : Nat} (hd : decode (mC M) pc = .ok (.invokevirtual idx, 3)) (hh : mHh M = []) (hz : MP Z na) (hs : ST M idx Z) (hsel : ∀ {p : Program} {R : Room} {s : State} {m : MethodId} {args : Array Value} {meth : Method} {c : Code} {H : Heap} {locs : List Loc}, Cx E M p R s m args meth c H locs → (Cond.selects "java/lang/StringBuilder" (mY Z) (mY Z)).before args s = true) (hb : hK h b = 9) (hst : st0 = As.reverse ++ .ref b :: st) (hna : As.length = na) (hcat : (st.map fun v => v.category).sum ≤ 8)
    (hct : CT E Z (.ref b :: As) h kz nz P' X') (kx : ∀ (Cn : String) (h1 : Hp), X' Cn h1 → X Cn h1) (kk : ∀ (v : Option Value) (h1 : Hp), P' v h1 → G E M (pc + 3) lv (v.toList ++ st) h1 k n P X) : G E M pc lv st0 h (k + kz) (n + nz) P X := by
  intro p e R s m args below meth c H locs cells slots ls C r h1 h2 hl
  obtain ⟨z1, z2, z4, z5, z6⟩ := hz
  obtain ⟨s1, s2, s3⟩ := hs
  obtain ⟨r', hr', cellV, g1, g2, g3, -⟩ := r.obj (ci := 8) hb (by decide)
  have hKn := C.hK.1 8 _ (rfl : cls[8]? = some _)
  have hfr := C.2.2.2.2.2.2.2.2.2.2.2.2.1
  have hlo := C.2.2.2.2.2.2.2.2.2.2.2.2.2.1
  refine g_run C hh h1 h2 hl (vx_runV (Ts := tG) (cc := mC M) (nL := mN M) (own := (mY M).cls) (C := "java/lang/StringBuilder") (As := As) (b := b) (n := na) (index := idx) ⟨C.1, C.2.1, C.2.2.1, C.2.2.2.1, C.hts⟩ hct
    ⟨⟨rfl, rfl, by show mFr Z + 1 ≤ R.frames; omega, by show 8 + (mN Z + 11) + mLo Z ≤ R.locals; omega, pay_in C.hts (mW_good z1 z5), by rw [mW_code z1]; exact List.mem_cons_self, C.hts _ z5, C.hts _ z4, ⟨z6.1, z6.2.1⟩, fun sig hsig => ?_, C.hts _ s1⟩, C.hts _ z2, hsel C⟩
    ⟨Inv.blind, ⟨cellV, g1, by rw [g3]; rfl, by rw [g2]; exact hKn.2.1⟩, fun U hU hW => ⟨rfl, inv_at C r U hU hW⟩⟩ rfl hna hl.1 hst (lv_room hcat) hd ⟨by omega, by omega⟩) kx kk
  have h9 := z6.2.2
  rw [hsig] at h9
  exact (Option.some.inj h9).symm
