/-! THE ABSTRACT HEAP: ints, references, longs by address and place; the kind of a cell (0: none of ours, ci + 1: an object of class ci, 20..26: an array), its length -/
abbrev Hp : Type := (Nat → Nat → Int32) × (Nat → Nat → Option Nat) × (Nat → Nat → Int64) × (Nat → Nat) × (Nat → Nat)
def hI (h : Hp) : Nat → Nat → Int32 := h.1
def hR (h : Hp) : Nat → Nat → Option Nat := h.2.1
def hJ (h : Hp) : Nat → Nat → Int64 := h.2.2.1
def hK (h : Hp) : Nat → Nat := h.2.2.2.1
def hL (h : Hp) : Nat → Nat := h.2.2.2.2
def u2 {α : Type} (f : Nat → Nat → α) (a k : Nat) (v : α) : Nat → Nat → α := fun q j => if q = a ∧ j = k then v else f q j
def u1 {α : Type} (f : Nat → α) (a : Nat) (v : α) : Nat → α := fun q => if q = a then v else f q
def sI (h : Hp) (a k : Nat) (v : Int32) : Hp := (u2 h.1 a k v, h.2)
def sR (h : Hp) (a k : Nat) (v : Option Nat) : Hp := (h.1, u2 h.2.1 a k v, h.2.2)
def sJ (h : Hp) (a k : Nat) (v : Int64) : Hp := (h.1, h.2.1, u2 h.2.2.1 a k v, h.2.2.2)
def hNew (h : Hp) (a kind len : Nat) : Hp := (u1 h.1 a (fun _ => 0), u1 h.2.1 a (fun _ => none), u1 h.2.2.1 a (fun _ => 0), u1 h.2.2.2.1 a kind, u1 h.2.2.2.2 a len)
theorem hI_sI (h : Hp) (a k : Nat) (v : Int32) (q j : Nat) : hI (sI h a k v) q j = if q = a ∧ j = k then v else hI h q j := rfl
theorem hR_sI (h : Hp) (a k : Nat) (v : Int32) : hR (sI h a k v) = hR h := rfl
theorem hJ_sI (h : Hp) (a k : Nat) (v : Int32) : hJ (sI h a k v) = hJ h := rfl
theorem hK_sI (h : Hp) (a k : Nat) (v : Int32) : hK (sI h a k v) = hK h := rfl
theorem hL_sI (h : Hp) (a k : Nat) (v : Int32) : hL (sI h a k v) = hL h := rfl
theorem hR_sR (h : Hp) (a k : Nat) (v : Option Nat) (q j : Nat) : hR (sR h a k v) q j = if q = a ∧ j = k then v else hR h q j := rfl
theorem hI_sR (h : Hp) (a k : Nat) (v : Option Nat) : hI (sR h a k v) = hI h := rfl
theorem hJ_sR (h : Hp) (a k : Nat) (v : Option Nat) : hJ (sR h a k v) = hJ h := rfl
theorem hK_sR (h : Hp) (a k : Nat) (v : Option Nat) : hK (sR h a k v) = hK h := rfl
theorem hL_sR (h : Hp) (a k : Nat) (v : Option Nat) : hL (sR h a k v) = hL h := rfl
theorem hJ_sJ (h : Hp) (a k : Nat) (v : Int64) (q j : Nat) : hJ (sJ h a k v) q j = if q = a ∧ j = k then v else hJ h q j := rfl
theorem hI_sJ (h : Hp) (a k : Nat) (v : Int64) : hI (sJ h a k v) = hI h := rfl
theorem hR_sJ (h : Hp) (a k : Nat) (v : Int64) : hR (sJ h a k v) = hR h := rfl
theorem hK_sJ (h : Hp) (a k : Nat) (v : Int64) : hK (sJ h a k v) = hK h := rfl
theorem hL_sJ (h : Hp) (a k : Nat) (v : Int64) : hL (sJ h a k v) = hL h := rfl
theorem hI_new (h : Hp) (a kind len q : Nat) : hI (hNew h a kind len) q = if q = a then (fun _ => 0) else hI h q := rfl
theorem hR_new (h : Hp) (a kind len q : Nat) : hR (hNew h a kind len) q = if q = a then (fun _ => none) else hR h q := rfl
theorem hJ_new (h : Hp) (a kind len q : Nat) : hJ (hNew h a kind len) q = if q = a then (fun _ => 0) else hJ h q := rfl
theorem hK_new (h : Hp) (a kind len q : Nat) : hK (hNew h a kind len) q = if q = a then kind else hK h q := rfl
theorem hL_new (h : Hp) (a kind len q : Nat) : hL (hNew h a kind len) q = if q = a then len else hL h q := rfl
/-- what an array of a kind holds -/
def aTy (k : Nat) : FieldType := if k = 20 then .int else if k = 21 then .byte else if k = 22 then .boolean else if k = 23 then .char else if k = 24 then .long else if k = 25 then .object "HonestScales$Bureau" else if k = 26 then .object "HonestScales$Shop" else .object "HonestScalesLaw$Twin"
def aCon (h : Hp) (a k : Nat) : vp_A := (hL h a, if k < 24 then .inl (hI h a) else if k = 24 then .inr (.inl (hJ h a)) else .inr (.inr (.inr (.inr (hR h a)))))
def flds (h : Hp) (a ci : Nat) : List Value := (List.range (cNf ci)).map (fun k => if cRf ci k then va_rf (hR h a k) else .int (hI h a k))
/-- the environment: the launch, the classes' numbers, the first address that is ours, the String constants and their rows -/
abbrev En : Type := Launch × va_G × Nat × (Nat → Nat) × (Nat → Nat) × Nat × Nat × (Nat → Int32)
def eL (E : En) : Launch := E.1
def eD (E : En) : va_G := E.2.1
def eB (E : En) : Nat := E.2.2.1
def eS (E : En) : Nat → Nat := E.2.2.2.1
def eV (E : En) : Nat → Nat := E.2.2.2.2.1
/-- the law's script: its cell, its length, its ints -/
def eXa (E : En) : Nat := E.2.2.2.2.2.1
def eXl (E : En) : Nat := E.2.2.2.2.2.2.1
def eXs (E : En) : Nat → Int32 := E.2.2.2.2.2.2.2
def CellAt (E : En) (U : State) (h : Hp) (a : Nat) (H : Heap) : Prop :=
  (hK h a < 20 ∧ va_at (eD E) cls (a, .inr (hK h a - 1, flds h a (hK h a - 1))) H) ∨
  (20 ≤ hK h a ∧ ∃ cA : ClassId, ArrOfT U cA (aTy (hK h a)) ∧ va_RA U cA (aTy (hK h a)) ∧ H[a]? = some (vp_cell cA (aCon h a (hK h a))))
def Rel (E : En) (U : State) (h : Hp) (H : Heap) : Prop := ∀ a : Nat, hK h a ≠ 0 → eB E ≤ a ∧ CellAt E U h a H
theorem CellAt.lt {E : En} {U : State} {h : Hp} {a : Nat} {H : Heap} (c : CellAt E U h a H) : a < H.size := by
  rcases c with ⟨-, c⟩ | ⟨-, cA, -, -, c⟩
  · exact va_at.lt c
  · exact (Array.getElem?_eq_some_iff.mp c).1
theorem CellAt.moved {E : En} {u U : State} {h : Hp} {a : Nat} {H : Heap} (hvm : u.vm.Alike U.vm) (c : CellAt E u h a H) : CellAt E U h a H := by
  rcases c with c | ⟨c0, cA, c1, c2, c3⟩
  · exact Or.inl c
  · exact Or.inr ⟨c0, cA, arrOfT_moved hvm c1, va_RA.moved hvm c2, c3⟩
theorem Rel.moved {E : En} {u U : State} {h : Hp} {H : Heap} (hvm : u.vm.Alike U.vm) (c : Rel E u h H) : Rel E U h H := fun a ha => ⟨(c a ha).1, (c a ha).2.moved hvm⟩
theorem Rel.lt {E : En} {u : State} {h : Hp} {H : Heap} (c : Rel E u h H) {a : Nat} (ha : hK h a ≠ 0) : a < H.size := (c a ha).2.lt
/-- the two heaps' cells at q are the same -/
def SameAt (h h' : Hp) (q : Nat) : Prop := hI h' q = hI h q ∧ hR h' q = hR h q ∧ hJ h' q = hJ h q ∧ hK h' q = hK h q ∧ hL h' q = hL h q
theorem CellAt.kept {E : En} {U : State} {h h' : Hp} {a : Nat} {H H' : Heap} (c : CellAt E U h a H) (hs : SameAt h h' a) (hH : H'[a]? = H[a]?) : CellAt E U h' a H' := by
  obtain ⟨s1, s2, s3, s4, s5⟩ := hs
  have hf : ∀ ci, flds h' a ci = flds h a ci := fun ci => by unfold flds; rw [s1, s2]
  have hc : ∀ k, aCon h' a k = aCon h a k := fun k => by unfold aCon; rw [s1, s2, s3, s5]
  unfold CellAt
  rw [s4]
  rcases c with ⟨c0, c1⟩ | ⟨c0, cA, c1, c2, c3⟩
  · exact Or.inl ⟨c0, by rw [hf]; exact c1.kept hH⟩
  · exact Or.inr ⟨c0, cA, c1, c2, by rw [hc, hH]; exact c3⟩
theorem Rel.upd {E : En} {U : State} {h h' : Hp} {a : Nat} {H H' : Heap} (c : Rel E U h H) (hs : ∀ q, q ≠ a → SameAt h h' q) (hH : ∀ q : Nat, q ≠ a → H'[q]? = H[q]?) (hB : eB E ≤ a) (ha : CellAt E U h' a H') : Rel E U h' H' := by
  intro q hq
  by_cases e : q = a
  · subst e
    exact ⟨hB, ha⟩
  · have hq0 : hK h q ≠ 0 := by rw [← (hs q e).2.2.2.1]; exact hq
    exact ⟨(c q hq0).1, (c q hq0).2.kept (hs q e) (hH q e)⟩
theorem Rel.kept {E : En} {U : State} {h : Hp} {H H' : Heap} (c : Rel E U h H) (hH : ∀ q : Nat, q < H.size → H'[q]? = H[q]?) : Rel E U h H' := fun q hq => ⟨(c q hq).1, (c q hq).2.kept ⟨rfl, rfl, rfl, rfl, rfl⟩ (hH q (c.lt hq))⟩
/-- a new cell behind all others -/
theorem Rel.push {E : En} {U : State} {h : Hp} {H H' : Heap} {kind len : Nat} (c : Rel E U h H) (hH : ∀ q : Nat, q < H.size → H'[q]? = H[q]?) (hB : eB E ≤ H.size) (ha : CellAt E U (hNew h H.size kind len) H.size H') : Rel E U (hNew h H.size kind len) H' := by
  intro q hq
  by_cases e : q = H.size
  · subst e
    exact ⟨hB, ha⟩
  · have hs : SameAt h (hNew h H.size kind len) q := by simp [SameAt, hI_new, hR_new, hJ_new, hK_new, hL_new, e]
    have hq0 : hK h q ≠ 0 := by rw [← hs.2.2.2.1]; exact hq
    exact ⟨(c q hq0).1, (c q hq0).2.kept hs (hH q (c.lt hq0))⟩
/-- words that a warmed launch keeps, of another kind -/
def nWord : Cond → Bool
  | .castable .. => true
  | .declares _ => true
  | .methodLinkNest .. => true
  | .fieldLinkNest .. => true
  | _ => false
def tN : List Cond := lw_tbl.filter nWord
theorem tN_in {w : Cond} (i : Nat) (h : lw_tbl[i]? = some w) (g : nWord w = true) : w ∈ tN := List.mem_filter.mpr ⟨List.mem_of_getElem? h, g⟩
theorem nW_warm {w : Cond} {s U : State} (g : nWord w = true) (hW : s.WarmedH U.vm) (h : va_Nw w s) : va_Nw w U := by
  cases w <;> first | exact va_Nw.warmC hW h | exact va_Nw.warmD hW h | exact va_Nw.warmM hW h | exact va_Nw.warmF hW h | (simp [nWord] at g)
theorem nW_same {w : Cond} {u U : State} (g : nWord w = true) (hv : u.vm = U.vm) (h : va_Nw w u) : va_Nw w U := by
  cases w <;> first | exact va_Nw.same (by rfl) hv h | (simp [nWord] at g)
/-- String constants: the class, its entry, the text, our number for it -/
def strT : List (String × Nat × String × Nat) := [("HonestScales$Parser", 32, "bureau 5 10 4 10 20 1 7; weights 100 500 2000; shop 100 500 50 7 250 10 20 3; shop 50 530 50 5 1000 4 0 0; shop 200 480 60 4 100 30 0 5;", 0), ("HonestScales$Parser", 86, "bureau", 1), ("HonestScales$Parser", 107, "weights", 2), ("HonestScales$Parser", 132, "shop", 3), ("HonestScalesLaw", 49, "bureau", 1), ("HonestScalesLaw", 57, " ", 4), ("HonestScalesLaw", 66, ";weights", 5), ("HonestScalesLaw", 68, ";", 6), ("HonestScalesLaw", 96, "shop ", 7), ("HonestScales$Parser", 132, "shop", 3), ("HonestScales", 61, "the input buffer is full", 10), ("HonestScales", 61, "the input buffer is full", 10), ("HonestScales", 61, "the input buffer is full", 10), ("HonestScales", 185, "no such test weight", 13), ("HonestScales", 305, "no such shop", 14), ("HonestScales", 309, "a number is out of range", 15), ("HonestScales", 312, "the shop is not in a state for this", 16), ("HonestScales", 314, "the text has an error", 17)]
def strL : List Nat := [136, 6, 7, 4, 1, 8, 1, 5]
def strB : List (List Int32) := [[98, 117, 114, 101, 97, 117, 32, 53, 32, 49, 48, 32, 52, 32, 49, 48, 32, 50, 48, 32, 49, 32, 55, 59, 32, 119, 101, 105, 103, 104, 116, 115, 32, 49, 48, 48, 32, 53, 48, 48, 32, 50, 48, 48, 48, 59, 32, 115, 104, 111, 112, 32, 49, 48, 48, 32, 53, 48, 48, 32, 53, 48, 32, 55, 32, 50, 53, 48, 32, 49, 48, 32, 50, 48, 32, 51, 59, 32, 115, 104, 111, 112, 32, 53, 48, 32, 53, 51, 48, 32, 53, 48, 32, 53, 32, 49, 48, 48, 48, 32, 52, 32, 48, 32, 48, 59, 32, 115, 104, 111, 112, 32, 50, 48, 48, 32, 52, 56, 48, 32, 54, 48, 32, 52, 32, 49, 48, 48, 32, 51, 48, 32, 48, 32, 53, 59], [98, 117, 114, 101, 97, 117], [119, 101, 105, 103, 104, 116, 115], [115, 104, 111, 112], [32], [59, 119, 101, 105, 103, 104, 116, 115], [59], [115, 104, 111, 112, 32]]
def zT : List (String × String × String × Option Nat × Int32) := [("HonestScales", "BUREAU_RANGES", "[I", some 100, 0), ("HonestScales", "SHOP_RANGES", "[I", some 101, 0), ("java/lang/Integer", "DigitTens", "[B", some 102, 0), ("java/lang/Integer", "DigitOnes", "[B", some 103, 0), ("java/lang/String", "COMPACT_STRINGS", "Z", none, 1)]
def rowT : List (FieldType × Nat × List Int32) := [(.int, 100, [0, 50, 0, 50, 0, 99, 1, 99, 1, 50, 0, 3, 0, 65536]), (.int, 101, [0, 9999, 0, 1000, 0, 100, 0, 10, 1, 5000, 0, 50, 0, 100, 0, 30]), (.byte, 102, [48, 48, 48, 48, 48, 48, 48, 48, 48, 48, 49, 49, 49, 49, 49, 49, 49, 49, 49, 49, 50, 50, 50, 50, 50, 50, 50, 50, 50, 50, 51, 51, 51, 51, 51, 51, 51, 51, 51, 51, 52, 52, 52, 52, 52, 52, 52, 52, 52, 52, 53, 53, 53, 53, 53, 53, 53, 53, 53, 53, 54, 54, 54, 54, 54, 54, 54, 54, 54, 54, 55, 55, 55, 55, 55, 55, 55, 55, 55, 55, 56, 56, 56, 56, 56, 56, 56, 56, 56, 56, 57, 57, 57, 57, 57, 57, 57, 57, 57, 57]), (.byte, 103, [48, 49, 50, 51, 52, 53, 54, 55, 56, 57, 48, 49, 50, 51, 52, 53, 54, 55, 56, 57, 48, 49, 50, 51, 52, 53, 54, 55, 56, 57, 48, 49, 50, 51, 52, 53, 54, 55, 56, 57, 48, 49, 50, 51, 52, 53, 54, 55, 56, 57, 48, 49, 50, 51, 52, 53, 54, 55, 56, 57, 48, 49, 50, 51, 52, 53, 54, 55, 56, 57, 48, 49, 50, 51, 52, 53, 54, 55, 56, 57, 48, 49, 50, 51, 52, 53, 54, 55, 56, 57, 48, 49, 50, 51, 52, 53, 54, 55, 56, 57])]
def zV (E : En) (q : Option Nat × Int32) : Value := match q.1 with
  | some k => .ref (eS E k)
  | none => .int q.2
/-- which exceptions the handlers of others pass -/
def ncT : List (String × String) := []
/-- what of the start's heap is read: nobody writes it -/
def Cst (E : En) (U : State) (H : Heap) : Prop :=
  (∀ w ∈ tN, va_Nw w U) ∧ va_AO "HonestScales$Bureau" U ∧ va_AO "HonestScales$Shop" U ∧
  (∀ q ∈ strT, vk_R q.1 q.2.1 q.2.2.1 (eS E q.2.2.2) U) ∧ vk_S 8 strL strB (eS E) (eV E) (fun q => eB E ≤ q) U H ∧
  (∀ q ∈ zT, va_Z q.1 q.2.1 q.2.2.1 (zV E q.2.2.2) (fun q => eB E ≤ q) U H) ∧
  (∀ q ∈ rowT, va_T q.1 (eS E q.2.1) q.2.2.length (fun j => .int (q.2.2.getD j 0)) (fun q => eB E ≤ q) U H) ∧
  vx_Zq Bundle.tN "UNASSIGNED_STACK" Bundle.steD (fun q => eB E ≤ q) U H ∧ vx_Zq Bundle.tN "SUPPRESSED_SENTINEL" Bundle.listD (fun q => eB E ≤ q) U H ∧ va_Zq "jdk/internal/util/Preconditions" "SIOOBE_FORMATTER" "Ljava/util/function/BiFunction;" (fun q => eB E ≤ q) U H ∧
  va_X (eXa E) (eXl E) (eXs E) U H ∧ ¬ eB E ≤ eXa E ∧ (∀ q ∈ ncT, va_Nc q.1 q.2 U) ∧ va_AO "HonestScalesLaw$Twin" U
theorem va_X.lt' {b L : Nat} {xs : Nat → Int32} {U : State} {H : Heap} (h : va_X b L xs U H) : b < H.size := by
  obtain ⟨scr, h1, -⟩ := h
  exact (Array.getElem?_eq_some_iff.mp h1).1
theorem Cst.kept {E : En} {U : State} {H H1 : Heap} (h : Cst E U H) (hq : ∀ a : Nat, a < H.size → ¬ eB E ≤ a → H1[a]? = H[a]?) : Cst E U H1 :=
  ⟨h.1, h.2.1, h.2.2.1, h.2.2.2.1, h.2.2.2.2.1.kept hq, fun q m => (h.2.2.2.2.2.1 q m).kept hq, fun q m => (h.2.2.2.2.2.2.1 q m).kept hq, h.2.2.2.2.2.2.2.1.kept hq, h.2.2.2.2.2.2.2.2.1.kept hq, h.2.2.2.2.2.2.2.2.2.1.kept hq, va_X.kept h.2.2.2.2.2.2.2.2.2.2.1 (hq _ (va_X.lt' h.2.2.2.2.2.2.2.2.2.2.1) h.2.2.2.2.2.2.2.2.2.2.2.1), h.2.2.2.2.2.2.2.2.2.2.2⟩
theorem Cst.warm {E : En} {s U : State} {H : Heap} (h : Cst E s H) (hW : s.WarmedH U.vm) : Cst E U H :=
  ⟨fun w m => nW_warm (List.mem_filter.mp m).2 hW (h.1 w m), h.2.1.moved hW.alike, h.2.2.1.moved hW.alike, fun q m => vk_R.warm hW (h.2.2.2.1 q m), vk_S.moved hW.alike h.2.2.2.2.1, fun q m => va_Z.moved hW.alike (h.2.2.2.2.2.1 q m), fun q m => va_T.moved hW.alike (h.2.2.2.2.2.2.1 q m), vx_Zq.moved hW.alike h.2.2.2.2.2.2.2.1, vx_Zq.moved hW.alike h.2.2.2.2.2.2.2.2.1, va_Zq.moved hW.alike h.2.2.2.2.2.2.2.2.2.1, va_X.moved hW.alike h.2.2.2.2.2.2.2.2.2.2.1, h.2.2.2.2.2.2.2.2.2.2.2.1, fun q m => va_Nc.moved hW.alike (h.2.2.2.2.2.2.2.2.2.2.2.2.1 q m), h.2.2.2.2.2.2.2.2.2.2.2.2.2.moved hW.alike⟩
theorem Cst.same {E : En} {s U : State} {H : Heap} (h : Cst E s H) (hv : U.vm = s.vm) : Cst E U H := by
  have ha : s.vm.Alike U.vm := by rw [hv]; exact Vm.Alike.refl _
  exact ⟨fun w m => nW_same (List.mem_filter.mp m).2 hv.symm (h.1 w m), h.2.1.moved ha, h.2.2.1.moved ha, fun q m => vk_R.same hv (h.2.2.2.1 q m), vk_S.moved ha h.2.2.2.2.1, fun q m => va_Z.moved ha (h.2.2.2.2.2.1 q m), fun q m => va_T.moved ha (h.2.2.2.2.2.2.1 q m), vx_Zq.moved ha h.2.2.2.2.2.2.2.1, vx_Zq.moved ha h.2.2.2.2.2.2.2.2.1, va_Zq.moved ha h.2.2.2.2.2.2.2.2.2.1, va_X.moved ha h.2.2.2.2.2.2.2.2.2.2.1, h.2.2.2.2.2.2.2.2.2.2.2.1, fun q m => va_Nc.moved ha (h.2.2.2.2.2.2.2.2.2.2.2.2.1 q m), h.2.2.2.2.2.2.2.2.2.2.2.2.2.moved ha⟩

/-- a method: its name, its bytes, its locals, what it returns, its handlers, the frames and the words that it needs -/
abbrev Mt : Type := MethodName × ByteArray × Nat × Option FieldType × List (Nat × Nat × Nat × Nat) × Nat × Nat
def mY (M : Mt) : MethodName := M.1
def mC (M : Mt) : ByteArray := M.2.1
def mN (M : Mt) : Nat := M.2.2.1
def mRt (M : Mt) : Option FieldType := M.2.2.2.1
def mHh (M : Mt) : List (Nat × Nat × Nat × Nat) := M.2.2.2.2.1
def mFr (M : Mt) : Nat := M.2.2.2.2.2.1
def mLo (M : Mt) : Nat := M.2.2.2.2.2.2
def mW (M : Mt) : List Cond := (if mHh M = [] then Cond.code (mY M) (mC M) (mN M) (mRt M) else Cond.codeWith (mY M) (mC M) (mN M) (mRt M) (mHh M)) :: tG
def mRm (M : Mt) (k n : Nat) : Room := { frames := mFr M, cells := k, slots := n, locals := mLo M }
def Inv (E : En) (h : Hp) (U : State) : Prop := Rel E U h U.heap ∧ va_K (eD E) cls [] U ∧ Cst E U U.heap ∧ eB E ≤ U.heap.size
def gA (E : En) : Nat → Prop := fun q => eB E ≤ q
def gQ (E : En) (P : Option Value → Hp → Prop) : Array Value → State → Outcome → State → Prop := fun _ st o t => (∃ (v : Option Value) (h : Hp), o = .returned v ∧ P v h ∧ Rel E t h t.heap) ∧ va_F (gA E) st t
def gX (E : En) (X : String → Hp → Prop) : String → State → State → Prop := fun C st t => (∃ h : Hp, X C h ∧ Rel E t h t.heap) ∧ va_F (gA E) st t
/-- THE CONTRACT: called with av in the heap h, M returns v with P v h', or throws an object of C with X C h'; it makes at most k cells of n slots -/
def CT (E : En) (M : Mt) (av : List Value) (h : Hp) (k n : Nat) (P : Option Value → Hp → Prop) (X : String → Hp → Prop) : Prop :=
  vx_Met (eL E) (mY M) (mW M) (mRm M k n) (va_Pc av (Inv E h)) (gQ E P) (gX E X) k n (gA E)
/-- what stays the same along a method's walk -/
def Cx (E : En) (M : Mt) (p : Program) (R : Room) (s : State) (m : MethodId) (args : Array Value) (meth : Method) (c : Code) (H : Heap) (locs : List Loc) : Prop :=
  p.tables.exec = Jvm.exec ∧ c.code = mC M ∧ c.maxLocals = mN M ∧ s.vm.findClass (mY M).cls = some m.cls ∧ (∀ w ∈ tG, w.before args s = true) ∧ meth.sig.returnType = mRt M ∧ meth.locks = false ∧ meth.name = (mY M).name ∧ c.exceptionTable.toList = tableOf (mHh M) ∧
  va_K (eD E) cls [] s ∧ Cst E s s.heap ∧ eB E ≤ s.heap.size ∧ mFr M ≤ R.frames ∧ mLo M ≤ R.locals ∧ va_S (gA E) s.heap H locs
def G (E : En) (M : Mt) (pc : Nat) (lv : List (Nat × Value)) (st : List Value) (h : Hp) (k n : Nat) (P : Option Value → Hp → Prop) (X : String → Hp → Prop) : Prop :=
  ∀ (p : Program) (e : Env) (R : Room) (s : State) (m : MethodId) (args : Array Value) (below : List Frame) (meth : Method) (c : Code) (H : Heap) (locs : List Loc) (cells slots : Nat) (ls : Array Slot),
    Cx E M p R s m args meth c H locs → Rel E s h H → cells + k ≤ R.cells → slots + n ≤ R.slots → lv_has ls (mN M) lv →
    W p (eL E) e R s m args below meth c H locs cells slots (vx_MQ below (gQ E P) (gX E X) args s R.cells R.slots (gA E)) (F0 m pc ls st)
theorem Inv.blind {E : En} {h : Hp} {av : List Value} : FrameBlind (va_Pc av (Inv E h)) := by
  intro a U g mk ⟨q0, q1, q2, q3, q4⟩
  exact ⟨q0, q1.moved (Vm.Alike.refl _), va_K.moved (Vm.Alike.refl _) q2, q3.same rfl, q4⟩
