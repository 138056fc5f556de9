/-! THE BUREAU'S CELLS AS ONE VALUE: rows that read and write it where the heap is (wB h b B) -/
theorem BuOk.sk {h : Hp} {b i : Nat} (hB : BuOk h b) (hi : i < 8) : hK h (sh h b i) = 6 := (hB.2.2.2.2.2.2.2.1 i hi).2
theorem BuOk.so {h : Hp} {b i : Nat} (hB : BuOk h b) (hi : i < 8) : rOk h (rA h b 13) i := (hB.2.2.2.2.2.2.2.1 i hi).1
theorem bI_0 {z : Bool} : bI z = 0 ↔ z = false := by cases z <;> decide
theorem bI_1 {z : Bool} : bI z = 1 ↔ z = true := by cases z <;> decide
theorem bI_t : bI true = 1 := rfl
theorem bI_f : bI false = 0 := rfl
def sC (B : Bu) (c : Nat → Int32) : Bu := (c, B.2)
def sW (B : Bu) (w : Nat → Int32) : Bu := (B.1, w, B.2.2)
def sS (B : Bu) (i : Nat) (s : Nat → Int32) : Bu := (B.1, B.2.1, u1 B.2.2 i s)
section
variable {E : En} {M Z : Mt} {pc : Nat} {lv : List (Nat × Value)} {st st0 As : List Value} {h : Hp} {k n b i j f : Nat} {B B9 : Bu} {P : Option Value → Hp → Prop} {X : String → Hp → Prop} {idx na : Nat} {q : vw_C} {x : Value} {v : Int32}
theorem g_bgI (hr : cRf 4 f = false) (hd : decode (mC M) pc = .ok (.getfield idx, 3)) (hf : FLk (mY M).cls idx 4 f) (hB : BuOk h b)
    (kk : G E M (pc + 3) lv (.int (B.1 f) :: st) (wB h b B) k n P X) : G E M pc lv (.ref b :: st) (wB h b B) k n P X :=
  g_getIX (B.1 f) hr hd hf (by decide) hB.1 (by rw [hI_wB_b]) kk
theorem g_bgW (hd : decode (mC M) pc = .ok (.getfield idx, 3)) (hf : FLk (mY M).cls idx 4 12) (hB : BuOk h b)
    (kk : G E M (pc + 3) lv (.ref (rA h b 12) :: st) (wB h b B) k n P X) : G E M pc lv (.ref b :: st) (wB h b B) k n P X :=
  g_getAX (rA h b 12) rfl hd hf (by decide) hB.1 hB.2.1 rfl kk
theorem g_bgS (hd : decode (mC M) pc = .ok (.getfield idx, 3)) (hf : FLk (mY M).cls idx 4 13) (hB : BuOk h b)
    (kk : G E M (pc + 3) lv (.ref (rA h b 13) :: st) (wB h b B) k n P X) : G E M pc lv (.ref b :: st) (wB h b B) k n P X :=
  g_getAX (rA h b 13) rfl hd hf (by decide) hB.1 hB.2.2.1 rfl kk
theorem BuOk.hw {h : Hp} {b : Nat} (hB : BuOk h b) : hK h (rA h b 12) = 20 ∧ hL h (rA h b 12) = 6 := ⟨hB.2.2.2.1, hB.2.2.2.2.1⟩
theorem BuOk.hs {h : Hp} {b : Nat} (hB : BuOk h b) : hK h (rA h b 13) = 26 ∧ hL h (rA h b 13) = 8 := ⟨hB.2.2.2.2.2.1, hB.2.2.2.2.2.2.1⟩
theorem g_bwl (hd : decode (mC M) pc = .ok (.iaload, 1)) (hB : BuOk h b) (hj : j < 6)
    (kk : G E M (pc + 1) lv (.int (B.2.1 j) :: st) (wB h b B) k n P X) : G E M pc lv (.int (nI j) :: .ref (rA h b 12) :: st) (wB h b B) k n P X :=
  g_ialoadX (B.2.1 j) hd hB.hw.1 (show j < hL h (rA h b 12) by rw [hB.hw.2]; exact hj) (show hL h (rA h b 12) < 2 ^ 31 by rw [hB.hw.2]; decide) (by rw [hI_wB_w hB]) kk
theorem g_bws (hd : decode (mC M) pc = .ok (.iastore, 1)) (hB : BuOk h b) (hj : j < 6)
    (kk : G E M (pc + 1) lv st (wB h b (sW B (u1 B.2.1 j v))) k n P X) : G E M pc lv (.int v :: .int (nI j) :: .ref (rA h b 12) :: st) (wB h b B) k n P X :=
  g_iastoreX hd hB.hw.1 (show j < hL h (rA h b 12) by rw [hB.hw.2]; exact hj) (show hL h (rA h b 12) < 2 ^ 31 by rw [hB.hw.2]; decide) (by rw [sI_sA, hI_wB_w hB, wB_w hB]; exact kk)
theorem g_bsl (hd : decode (mC M) pc = .ok (.aaload, 1)) (hB : BuOk h b) (hi : i < 8)
    (kk : G E M (pc + 1) lv (.ref (sh h b i) :: st) (wB h b B) k n P X) : G E M pc lv (.int (nI i) :: .ref (rA h b 13) :: st) (wB h b B) k n P X :=
  g_aaloadX (sh h b i) hd (Or.inr rfl) hB.hs.1 (show i < hL h (rA h b 13) by rw [hB.hs.2]; exact hi) (show hL h (rA h b 13) < 2 ^ 31 by rw [hB.hs.2]; decide) (hB.so hi) rfl kk
theorem g_sgI (hr : cRf 5 f = false) (hd : decode (mC M) pc = .ok (.getfield idx, 3)) (hf : FLk (mY M).cls idx 5 f) (hB : BuOk h b) (hi : i < 8)
    (kk : G E M (pc + 3) lv (.int (B.2.2 i f) :: st) (wB h b B) k n P X) : G E M pc lv (.ref (sh h b i) :: st) (wB h b B) k n P X :=
  g_getIX (B.2.2 i f) hr hd hf (by decide) (hB.sk hi) (by rw [hI_wB_s hB hi]) kk
theorem g_bpI (hr : cRf 4 f = false) (hd : decode (mC M) pc = .ok (.putfield idx, 3)) (hf : FLk (mY M).cls idx 4 f) (hfin : ∀ q, cls[4]? = some q → (q.2.1 f).2.2.2 = false) (hn : narrow (cTy 4 f) (.int v) = .int v) (hfit : fits (cTy 4 f) (.int v) = true) (hB : BuOk h b)
    (kk : G E M (pc + 3) lv st (wB h b (sC B (u1 B.1 f v))) k n P X) : G E M pc lv (.int v :: .ref b :: st) (wB h b B) k n P X :=
  g_putI hr hd hf hfin hn hfit (by decide) hB.1 (by rw [sI_sA, hI_wB_b, wB_b]; exact kk)
theorem g_spI (hr : cRf 5 f = false) (hd : decode (mC M) pc = .ok (.putfield idx, 3)) (hf : FLk (mY M).cls idx 5 f) (hfin : ∀ q, cls[5]? = some q → (q.2.1 f).2.2.2 = false) (hn : narrow (cTy 5 f) (.int v) = .int v) (hfit : fits (cTy 5 f) (.int v) = true) (hB : BuOk h b) (hi : i < 8)
    (kk : G E M (pc + 3) lv st (wB h b (sS B i (u1 (B.2.2 i) f v))) k n P X) : G E M pc lv (.int v :: .ref (sh h b i) :: st) (wB h b B) k n P X :=
  g_putI hr hd hf hfin hn hfit (by decide) (hB.sk hi) (by rw [sI_sA, hI_wB_s hB hi, wB_s hB hi]; exact kk)
end
/-! the contracts so far, said of that heap -/
theorem cb_excessFor {E : En} {h : Hp} {b i : Nat} {B : Bu} (hB : BuOk h b) (hi : i < 8) {g : Int32} : CR E m_BU_excessFor [.ref b, .ref (sh h b i), .int g] (wB h b B) (some (.int (M_exc B.1 (B.2.2 i) g))) (wB h b B) := by
  have z := ct_BU_excessFor (E := E) (h := wB h b B) (b := b) (a := sh h b i) (g := g) hB.1 (hB.sk hi)
  rw [hI_wB_b, hI_wB_s hB hi] at z
  exact z
theorem cb_boundFor {E : En} {h : Hp} {b : Nat} {B : Bu} (hB : BuOk h b) {g : Int32} : CR E m_BU_boundFor [.ref b, .int g] (wB h b B) (some (.int (M_bound B.1 g))) (wB h b B) := by
  have z := ct_BU_boundFor (E := E) (h := wB h b B) (b := b) (g := g) hB.1
  rw [hI_wB_b] at z
  exact z
theorem cb_errorFor {E : En} {h : Hp} {b i : Nat} {B : Bu} (hB : BuOk h b) (hi : i < 8) {g : Int32} : CR E m_SH_errorFor [.ref (sh h b i), .int g] (wB h b B) (some (.int (M_err (B.2.2 i) g))) (wB h b B) := by
  have z := ct_SH_errorFor (E := E) (h := wB h b B) (a := sh h b i) (g := g) (hB.sk hi)
  rw [hI_wB_s hB hi] at z
  exact z
theorem cb_isStampedOn {E : En} {h : Hp} {b i : Nat} {B : Bu} (hB : BuOk h b) (hi : i < 8) {g : Int32} : CR E m_SH_isStampedOn [.ref (sh h b i), .int g] (wB h b B) (some (.int (bI (M_stamped (B.2.2 i) g)))) (wB h b B) := by
  have z := ct_SH_isStampedOn (E := E) (h := wB h b B) (a := sh h b i) (d := g) (hB.sk hi)
  rw [hI_wB_s hB hi] at z
  exact z
theorem cb_usesThumbOn {E : En} {h : Hp} {b i : Nat} {B : Bu} (hB : BuOk h b) (hi : i < 8) {g : Int32} : CR E m_SH_usesThumbOn [.ref (sh h b i), .int g] (wB h b B) (some (.int (bI (M_uses (B.2.2 i) g)))) (wB h b B) := by
  have z := ct_SH_usesThumbOn (E := E) (h := wB h b B) (a := sh h b i) (d := g) (hB.sk hi)
  rw [hI_wB_s hB hi] at z
  exact z
theorem cb_falseGramsOn {E : En} {h : Hp} {b i : Nat} {B : Bu} (hB : BuOk h b) (hi : i < 8) {g : Int32} : CR E m_SH_falseGramsOn [.ref (sh h b i), .int g] (wB h b B) (some (.int (M_false (B.2.2 i) g))) (wB h b B) := by
  have z := ct_SH_falseGramsOn (E := E) (h := wB h b B) (a := sh h b i) (d := g) (hB.sk hi)
  rw [hI_wB_s hB hi] at z
  exact z
theorem cb_canPayRepair {E : En} {h : Hp} {b i : Nat} {B : Bu} (hB : BuOk h b) (hi : i < 8) : CR E m_SH_canPayRepair [.ref (sh h b i)] (wB h b B) (some (.int (bI (M_canPay (B.2.2 i))))) (wB h b B) := by
  have z := ct_SH_canPayRepair (E := E) (h := wB h b B) (a := sh h b i) (hB.sk hi)
  rw [hI_wB_s hB hi] at z
  exact z
theorem cb_driftOneDay {E : En} {h : Hp} {b i : Nat} {B : Bu} (hB : BuOk h b) (hi : i < 8) : CR E m_SH_driftOneDay [.ref (sh h b i)] (wB h b B) none (wB h b (sS B i (M_drift (B.2.2 i)))) := by
  have z := ct_SH_driftOneDay (E := E) (h := wB h b B) (a := sh h b i) (hB.sk hi)
  rw [hI_wB_s hB hi, wB_s hB hi] at z
  exact z
theorem cb_openAgain {E : En} {h : Hp} {b i : Nat} {B : Bu} (hB : BuOk h b) (hi : i < 8) : CR E m_SH_openAgain [.ref (sh h b i)] (wB h b B) none (wB h b (sS B i (M_open (B.2.2 i)))) := by
  have z := ct_SH_openAgain (E := E) (h := wB h b B) (a := sh h b i) (hB.sk hi)
  rw [hI_wB_s hB hi, wB_s hB hi] at z
  exact z
theorem cb_totalFor {E : En} {h : Hp} {b i nw : Nat} {B : Bu} (hB : BuOk h b) (hi : i < 8) (hw : B.1 7 = nI nw) (hn : nw ≤ 6) : CR E m_BU_totalFor [.ref b, .ref (sh h b i)] (wB h b B) (some (.int (M_tot B.1 B.2.1 (B.2.2 i) nw))) (wB h b B) := by
  have z := ct_BU_totalFor (E := E) (h := wB h b B) (b := b) (a := sh h b i) (nw := nw) hB (hB.sk hi) (by rw [hI_wB_b]; exact hw) hn
  rw [show rA (wB h b B) b 12 = rA h b 12 from rfl, hI_wB_b, hI_wB_s hB hi, hI_wB_w hB] at z
  exact z
theorem cb_hasTrueScale {E : En} {h : Hp} {b i nw : Nat} {B : Bu} (hB : BuOk h b) (hi : i < 8) (hw : B.1 7 = nI nw) (hn : nw ≤ 6) : CR E m_BU_hasTrueScale [.ref b, .ref (sh h b i)] (wB h b B) (some (.int (bI (decide (M_tot B.1 B.2.1 (B.2.2 i) nw = 0))))) (wB h b B) := by
  have z := ct_BU_hasTrueScale (E := E) (h := wB h b B) (b := b) (a := sh h b i) (nw := nw) hB (hB.sk hi) (by rw [hI_wB_b]; exact hw) hn
  rw [show rA (wB h b B) b 12 = rA h b 12 from rfl, hI_wB_b, hI_wB_s hB hi, hI_wB_w hB] at z
  exact z
theorem cb_ouncesIn {E : En} {h : Hp} {b : Nat} {g : Int32} {B : Bu} : CR E m_BU_ouncesIn [.ref b, .int g] (wB h b B) (some (.int (M_ounces g))) (wB h b B) := ct_BU_ouncesIn
theorem cb_fineFor {E : En} {h : Hp} {b : Nat} {B : Bu} (hB : BuOk h b) {g : Int32} {z : Bool} : CR E m_BU_fineFor [.ref b, .int g, .int (bI z)] (wB h b B) (some (.int (M_fine B.1 g z))) (wB h b B) := by
  have y := ct_BU_fineFor (E := E) (h := wB h b B) (b := b) (g := g) (z := z) hB.1
  rw [hI_wB_b] at y
  exact y
theorem cb_gainFor {E : En} {h : Hp} {b i : Nat} {B : Bu} (hB : BuOk h b) (hi : i < 8) {g : Int32} : CR E m_BU_gainFor [.ref b, .ref (sh h b i), .int g] (wB h b B) (some (.int (M_gain B.1 (B.2.2 i) g))) (wB h b B) := by
  have z := ct_BU_gainFor (E := E) (h := wB h b B) (b := b) (a := sh h b i) (g := g) hB.1 (hB.sk hi)
  rw [hI_wB_b, hI_wB_s hB hi] at z
  exact z
theorem cb_canBeVisited {E : En} {h : Hp} {b i : Nat} {B : Bu} (hB : BuOk h b) (hi : i < 8) : CR E m_BU_canBeVisited [.ref b, .ref (sh h b i)] (wB h b B) (some (.int (bI (M_can B.1 (B.2.2 i))))) (wB h b B) := by
  have z := ct_BU_canBeVisited (E := E) (h := wB h b B) (b := b) (a := sh h b i) hB.1 (hB.sk hi)
  rw [hI_wB_b, hI_wB_s hB hi] at z
  exact z
theorem cb_makeSales {E : En} {h : Hp} {b i : Nat} {B : Bu} (hB : BuOk h b) (hi : i < 8) : CR E m_BU_makeSales [.ref b, .ref (sh h b i)] (wB h b B) none (wB h b (sS B i (M_sell B.1 (B.2.2 i)))) := by
  have z := ct_BU_makeSales (E := E) (h := wB h b B) (b := b) (a := sh h b i) hB.1 (hB.sk hi)
  rw [hI_wB_b, hI_wB_s hB hi, wB_s hB hi] at z
  exact z
def P_repair (B : Bu) (i : Nat) : Bu := sC (sS B i (u1 (M_straight (B.2.2 i)) 0 (B.2.2 i 0 - 10))) (u1 B.1 10 (B.1 10 + 10))
theorem cb_repairScale {E : En} {h : Hp} {b i : Nat} {B : Bu} (hB : BuOk h b) (hi : i < 8) : CR E m_BU_repairScale [.ref b, .ref (sh h b i)] (wB h b B) none (wB h b (P_repair B i)) := by
  have z := ct_BU_repairScale (E := E) (h := wB h b B) (b := b) (a := sh h b i) hB.1 (hB.sk hi)
  rw [hI_wB_b, hI_wB_s hB hi, wB_s hB hi, wB_b] at z
  exact z
def P_ins (B : Bu) (i nw : Nat) : Bu :=
  let t := M_tot B.1 B.2.1 (B.2.2 i) nw
  let z := M_stamped (B.2.2 i) (B.1 9)
  sC (sS B i (M_visS B.1 (B.2.2 i) t z)) (M_visC B.1 t z)
def P_fine (B : Bu) (i nw : Nat) : Int32 := M_fine B.1 (M_tot B.1 B.2.1 (B.2.2 i) nw) (M_stamped (B.2.2 i) (B.1 9))
theorem cb_inspect {E : En} {h : Hp} {b i nw : Nat} {B : Bu} (hB : BuOk h b) (hi : i < 8) (hw : B.1 7 = nI nw) (hn : nw ≤ 6) : CR E m_BU_inspect [.ref b, .ref (sh h b i)] (wB h b B) (some (.int (P_fine B i nw))) (wB h b (P_ins B i nw)) := by
  have z := ct_BU_inspect (E := E) (h := wB h b B) (b := b) (a := sh h b i) (nw := nw) hB (hB.sk hi) (by rw [hI_wB_b]; exact hw) hn
  rw [show rA (wB h b B) b 12 = rA h b 12 from rfl, hI_wB_b, hI_wB_s hB hi, hI_wB_w hB, wB_s hB hi, wB_b] at z
  exact z
/-! WHAT A DAY DOES -/
def P_drift (n : Nat) (B : Bu) : Bu := (B.1, B.2.1, fun i => if i < n then M_drift (B.2.2 i) else B.2.2 i)
def P_begin (n : Nat) (B : Bu) : Bu := P_drift n (sC B (u1 B.1 9 (B.1 9 + 1)))
def M_trade (c s : Nat → Int32) : Nat → Int32 := if s 12 = 0 then s else M_sell c s
def P_trade (n : Nat) (B : Bu) : Bu := (B.1, B.2.1, fun i => if i < n then M_trade B.1 (B.2.2 i) else B.2.2 i)
def oI : Option Nat → Int32
  | none => -1
  | some i => nI i
def P_most (B : Bu) : Nat → Option Nat × Int32
  | 0 => (none, 0)
  | n + 1 => if M_can B.1 (B.2.2 n) = true ∧ (P_most B n).2 < B.2.2 n 8 then (some n, B.2.2 n 8) else P_most B n
def P_next (B : Bu) (sc : Nat) : Nat → Nat → Option Nat
  | 0, _ => none
  | d + 1, i => if M_can B.1 (B.2.2 i) = true then some i else P_next B sc d (if i + 1 < sc then i + 1 else 0)
def M_seed (x : Int32) : Nat := (75 * x.toNatClampNeg + 74) % 65537
def P_choose (B : Bu) (sc : Nat) : Option Nat × Bu :=
  if (P_most B sc).1 ≠ none ∨ P_next B sc sc 0 = none then ((P_most B sc).1, B)
  else let B' := sC B (u1 B.1 6 (nI (M_seed (B.1 6)))); (P_next B' sc sc (M_seed (B.1 6) % sc), B')
/-- n inspectors, one after the other: how many visits, and the bureau -/
def P_sent (nw sc : Nat) : Nat → Nat × Bu → Nat × Bu
  | 0, q => q
  | n + 1, q => P_sent nw sc n (match P_choose q.2 sc with
    | (none, B') => (q.1, B')
    | (some i, B') => (q.1 + 1, P_ins B' i nw))
def P_day (nw sc ni : Nat) (q : Nat × Bu) : Nat × Bu := P_sent nw sc ni (q.1, P_trade sc (P_begin sc q.2))
def P_pass (nw sc ni : Nat) : Nat → Nat × Bu → Nat × Bu
  | 0, q => q
  | n + 1, q => P_pass nw sc ni n (P_day nw sc ni q)
/-- a bureau as calls leave it -/
def Bk (B : Bu) (nw sc ni : Nat) : Prop := B.1 7 = nI nw ∧ nw ≤ 6 ∧ B.1 8 = nI sc ∧ sc ≤ 8 ∧ 0 < sc ∧ B.1 5 = nI ni ∧ ni ≤ 3 ∧ (∃ sd, sd ≤ 65536 ∧ B.1 6 = nI sd) ∧ ∀ i, i < sc → B.2.2 i 12 = 0 ∨ B.2.2 i 12 = 1
