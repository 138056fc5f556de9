def F_0 : u_T := fun k => match k with
  | 0 => ("HonestScales", "parser", "LHonestScales$Parser;", true)
  | 1 => ("HonestScales", "input", "LHonestScales$Input;", true)
  | 2 => ("HonestScales", "now", "LHonestScales$Bureau;", true)
  | 3 => ("HonestScales", "spare", "LHonestScales$Bureau;", true)
  | 4 => ("HonestScales", "history", "LHonestScales$History;", true)
  | 5 => ("HonestScales", "snapshots", "[LHonestScales$Bureau;", true)
  | _ => ("HonestScales", "output", "Ljava/lang/StringBuilder;", true)
def ty_0 : Nat → FieldType := fun k => match k with
  | 0 => .object "HonestScales$Parser"
  | 1 => .object "HonestScales$Input"
  | 2 => .object "HonestScales$Bureau"
  | 3 => .object "HonestScales$Bureau"
  | 4 => .object "HonestScales$History"
  | 5 => .array (.object "HonestScales$Bureau")
  | _ => .object "java/lang/StringBuilder"
def rf_0 : Nat → Bool := fun k => match k with
  | 0 => true
  | 1 => true
  | 2 => true
  | 3 => true
  | 4 => true
  | 5 => true
  | _ => true
def F_1 : u_T := fun k => match k with
  | 0 => ("HonestScales$Parser", "input", "LHonestScales$Input;", true)
  | 1 => ("HonestScales$Parser", "script", "LHonestScales$Script;", true)
  | 2 => ("HonestScales$Parser", "row", "[I", true)
  | 3 => ("HonestScales$Parser", "number", "I", false)
  | 4 => ("HonestScales$Parser", "code", "I", false)
  | _ => ("HonestScales$Parser", "position", "I", false)
def ty_1 : Nat → FieldType := fun k => match k with
  | 0 => .object "HonestScales$Input"
  | 1 => .object "HonestScales$Script"
  | 2 => .array .int
  | 3 => .int
  | 4 => .int
  | _ => .int
def rf_1 : Nat → Bool := fun k => match k with
  | 0 => true
  | 1 => true
  | 2 => true
  | 3 => false
  | 4 => false
  | _ => false
def F_2 : u_T := fun k => match k with
  | 0 => ("HonestScales$Input", "bytes", "[B", true)
  | 1 => ("HonestScales$Input", "length", "I", false)
  | 2 => ("HonestScales$Input", "kind", "I", false)
  | 3 => ("HonestScales$Input", "start", "I", false)
  | 4 => ("HonestScales$Input", "end", "I", false)
  | _ => ("HonestScales$Input", "value", "I", false)
def ty_2 : Nat → FieldType := fun k => match k with
  | 0 => .array .byte
  | 1 => .int
  | 2 => .int
  | 3 => .int
  | 4 => .int
  | _ => .int
def rf_2 : Nat → Bool := fun k => match k with
  | 0 => true
  | 1 => false
  | 2 => false
  | 3 => false
  | 4 => false
  | _ => false
def F_3 : u_T := fun k => match k with
  | 0 => ("HonestScales$Script", "verbs", "[I", true)
  | 1 => ("HonestScales$Script", "shops", "[I", true)
  | 2 => ("HonestScales$Script", "numbers", "[I", true)
  | _ => ("HonestScales$Script", "count", "I", false)
def ty_3 : Nat → FieldType := fun k => match k with
  | 0 => .array .int
  | 1 => .array .int
  | 2 => .array .int
  | _ => .int
def rf_3 : Nat → Bool := fun k => match k with
  | 0 => true
  | 1 => true
  | 2 => true
  | _ => false
def F_4 : u_T := fun k => match k with
  | 0 => ("HonestScales$Bureau", "base", "I", false)
  | 1 => ("HonestScales$Bureau", "rate", "I", false)
  | 2 => ("HonestScales$Bureau", "fee", "I", false)
  | 3 => ("HonestScales$Bureau", "validity", "I", false)
  | 4 => ("HonestScales$Bureau", "price", "I", false)
  | 5 => ("HonestScales$Bureau", "inspectors", "I", false)
  | 6 => ("HonestScales$Bureau", "seed", "I", false)
  | 7 => ("HonestScales$Bureau", "weightCount", "I", false)
  | 8 => ("HonestScales$Bureau", "shopCount", "I", false)
  | 9 => ("HonestScales$Bureau", "day", "I", false)
  | 10 => ("HonestScales$Bureau", "coins", "I", false)
  | 11 => ("HonestScales$Bureau", "visits", "I", false)
  | 12 => ("HonestScales$Bureau", "weights", "[I", true)
  | _ => ("HonestScales$Bureau", "shops", "[LHonestScales$Shop;", true)
def ty_4 : Nat → FieldType := fun k => match k with
  | 0 => .int
  | 1 => .int
  | 2 => .int
  | 3 => .int
  | 4 => .int
  | 5 => .int
  | 6 => .int
  | 7 => .int
  | 8 => .int
  | 9 => .int
  | 10 => .int
  | 11 => .int
  | 12 => .array .int
  | _ => .array (.object "HonestScales$Shop")
def rf_4 : Nat → Bool := fun k => match k with
  | 0 => false
  | 1 => false
  | 2 => false
  | 3 => false
  | 4 => false
  | 5 => false
  | 6 => false
  | 7 => false
  | 8 => false
  | 9 => false
  | 10 => false
  | 11 => false
  | 12 => true
  | _ => true
def F_5 : u_T := fun k => match k with
  | 0 => ("HonestScales$Shop", "purse", "I", false)
  | 1 => ("HonestScales$Shop", "offset", "I", false)
  | 2 => ("HonestScales$Shop", "slope", "I", false)
  | 3 => ("HonestScales$Shop", "drift", "I", false)
  | 4 => ("HonestScales$Shop", "portion", "I", false)
  | 5 => ("HonestScales$Shop", "sales", "I", false)
  | 6 => ("HonestScales$Shop", "thumb", "I", false)
  | 7 => ("HonestScales$Shop", "caution", "I", false)
  | 8 => ("HonestScales$Shop", "complaints", "I", false)
  | 9 => ("HonestScales$Shop", "failures", "I", false)
  | 10 => ("HonestScales$Shop", "latestVisit", "I", false)
  | 11 => ("HonestScales$Shop", "stampedUntil", "I", false)
  | 12 => ("HonestScales$Shop", "open", "Z", false)
  | 13 => ("HonestScales$Shop", "fines", "I", false)
  | 14 => ("HonestScales$Shop", "gains", "I", false)
  | _ => ("HonestScales$Shop", "firstPurse", "I", false)
def ty_5 : Nat → FieldType := fun k => match k with
  | 0 => .int
  | 1 => .int
  | 2 => .int
  | 3 => .int
  | 4 => .int
  | 5 => .int
  | 6 => .int
  | 7 => .int
  | 8 => .int
  | 9 => .int
  | 10 => .int
  | 11 => .int
  | 12 => .boolean
  | 13 => .int
  | 14 => .int
  | _ => .int
def rf_5 : Nat → Bool := fun k => match k with
  | 0 => false
  | 1 => false
  | 2 => false
  | 3 => false
  | 4 => false
  | 5 => false
  | 6 => false
  | 7 => false
  | 8 => false
  | 9 => false
  | 10 => false
  | 11 => false
  | 12 => false
  | 13 => false
  | 14 => false
  | _ => false
def F_6 : u_T := fun k => match k with
  | 0 => ("HonestScales$History", "past", "[LHonestScales$Bureau;", true)
  | 1 => ("HonestScales$History", "count", "I", false)
  | _ => ("HonestScales$History", "next", "I", false)
def ty_6 : Nat → FieldType := fun k => match k with
  | 0 => .array (.object "HonestScales$Bureau")
  | 1 => .int
  | _ => .int
def rf_6 : Nat → Bool := fun k => match k with
  | 0 => true
  | 1 => false
  | _ => false
def F_7 : u_T := fun k => match k with
  | 0 => ("HonestScalesLaw$Bureau", "has", "[I", false)
  | 1 => ("HonestScalesLaw$Bureau", "weights", "[I", false)
  | _ => ("HonestScalesLaw$Bureau", "shops", "[LHonestScalesLaw$Twin;", false)
def ty_7 : Nat → FieldType := fun k => match k with
  | 0 => .array .int
  | 1 => .array .int
  | _ => .array (.object "HonestScalesLaw$Twin")
def rf_7 : Nat → Bool := fun k => match k with
  | 0 => true
  | 1 => true
  | _ => true
def F_8 : u_T := fun k => match k with
  | 0 => ("java/lang/AbstractStringBuilder", "value", "[B", false)
  | 1 => ("java/lang/AbstractStringBuilder", "coder", "B", false)
  | 2 => ("java/lang/AbstractStringBuilder", "count", "I", false)
  | _ => ("java/lang/AbstractStringBuilder", "maybeLatin1", "Z", false)
def ty_8 : Nat → FieldType := fun k => match k with
  | 0 => .array .byte
  | 1 => .byte
  | 2 => .int
  | _ => .boolean
def rf_8 : Nat → Bool := fun k => match k with
  | 0 => true
  | 1 => false
  | 2 => false
  | _ => false
def F_9 : u_T := fun k => match k with
  | 0 => ("HonestScalesLaw$Twin", "purse", "I", false)
  | 1 => ("HonestScalesLaw$Twin", "offset", "I", false)
  | 2 => ("HonestScalesLaw$Twin", "slope", "I", false)
  | 3 => ("HonestScalesLaw$Twin", "drift", "I", false)
  | 4 => ("HonestScalesLaw$Twin", "portion", "I", false)
  | 5 => ("HonestScalesLaw$Twin", "sales", "I", false)
  | 6 => ("HonestScalesLaw$Twin", "thumb", "I", false)
  | 7 => ("HonestScalesLaw$Twin", "caution", "I", false)
  | 8 => ("HonestScalesLaw$Twin", "complaints", "I", false)
  | 9 => ("HonestScalesLaw$Twin", "failures", "I", false)
  | 10 => ("HonestScalesLaw$Twin", "latest", "I", false)
  | 11 => ("HonestScalesLaw$Twin", "stamp", "I", false)
  | 12 => ("HonestScalesLaw$Twin", "open", "Z", false)
  | 13 => ("HonestScalesLaw$Twin", "fines", "I", false)
  | _ => ("HonestScalesLaw$Twin", "gains", "I", false)
def ty_9 : Nat → FieldType := fun k => match k with
  | 0 => .int
  | 1 => .int
  | 2 => .int
  | 3 => .int
  | 4 => .int
  | 5 => .int
  | 6 => .int
  | 7 => .int
  | 8 => .int
  | 9 => .int
  | 10 => .int
  | 11 => .int
  | 12 => .boolean
  | 13 => .int
  | _ => .int
def rf_9 : Nat → Bool := fun k => match k with
  | 0 => false
  | 1 => false
  | 2 => false
  | 3 => false
  | 4 => false
  | 5 => false
  | 6 => false
  | 7 => false
  | 8 => false
  | 9 => false
  | 10 => false
  | 11 => false
  | 12 => false
  | 13 => false
  | _ => false
def F_10 : u_T := fun k => match k with
  | 0 => ("java/lang/String", "value", "[B", true)
  | 1 => ("java/lang/String", "coder", "B", true)
  | 2 => ("java/lang/String", "hash", "I", false)
  | _ => ("java/lang/String", "hashIsZero", "Z", false)
def ty_10 : Nat → FieldType := fun k => match k with
  | 0 => .array .byte
  | 1 => .byte
  | 2 => .int
  | _ => .boolean
def rf_10 : Nat → Bool := fun k => match k with
  | 0 => true
  | 1 => false
  | 2 => false
  | _ => false
def cls : List vw_C := [("HonestScales", F_0, 7), ("HonestScales$Parser", F_1, 6), ("HonestScales$Input", F_2, 6), ("HonestScales$Script", F_3, 4), ("HonestScales$Bureau", F_4, 14), ("HonestScales$Shop", F_5, 16), ("HonestScales$History", F_6, 3), ("HonestScalesLaw$Bureau", F_7, 3), ("java/lang/StringBuilder", F_8, 4), ("HonestScalesLaw$Twin", F_9, 15), ("java/lang/String", F_10, 4)]
def cTy (ci : Nat) : Nat → FieldType := match ci with
  | 0 => ty_0
  | 1 => ty_1
  | 2 => ty_2
  | 3 => ty_3
  | 4 => ty_4
  | 5 => ty_5
  | 6 => ty_6
  | 7 => ty_7
  | 8 => ty_8
  | 9 => ty_9
  | _ => ty_10
def cRf (ci : Nat) : Nat → Bool := match ci with
  | 0 => rf_0
  | 1 => rf_1
  | 2 => rf_2
  | 3 => rf_3
  | 4 => rf_4
  | 5 => rf_5
  | 6 => rf_6
  | 7 => rf_7
  | 8 => rf_8
  | 9 => rf_9
  | _ => rf_10
def cNf (ci : Nat) : Nat := match ci with
  | 0 => 7
  | 1 => 6
  | 2 => 6
  | 3 => 4
  | 4 => 14
  | 5 => 16
  | 6 => 3
  | 7 => 3
  | 8 => 4
  | 9 => 15
  | _ => 4
theorem cin_0 : ∀ w ∈ u_ws "HonestScales" F_0 7, w ∈ lw_tbl ∧ goodWord w = true := by decide +kernel
theorem cty_0 : ∀ k, k < 7 → parseFieldDescriptor (F_0 k).2.2.1 = some (ty_0 k) := by decide +kernel
theorem cnm_0 : ∀ a, a < 7 → ∀ b, b < 7 → a ≠ b → (F_0 a).2.1 ≠ (F_0 b).2.1 := by decide +kernel
theorem crf_0 : ∀ k, k < 7 → rf_0 k = (ty_0 k).isReference := by decide +kernel
theorem cin_1 : ∀ w ∈ u_ws "HonestScales$Parser" F_1 6, w ∈ lw_tbl ∧ goodWord w = true := by decide +kernel
theorem cty_1 : ∀ k, k < 6 → parseFieldDescriptor (F_1 k).2.2.1 = some (ty_1 k) := by decide +kernel
theorem cnm_1 : ∀ a, a < 6 → ∀ b, b < 6 → a ≠ b → (F_1 a).2.1 ≠ (F_1 b).2.1 := by decide +kernel
theorem crf_1 : ∀ k, k < 6 → rf_1 k = (ty_1 k).isReference := by decide +kernel
theorem cin_2 : ∀ w ∈ u_ws "HonestScales$Input" F_2 6, w ∈ lw_tbl ∧ goodWord w = true := by decide +kernel
theorem cty_2 : ∀ k, k < 6 → parseFieldDescriptor (F_2 k).2.2.1 = some (ty_2 k) := by decide +kernel
theorem cnm_2 : ∀ a, a < 6 → ∀ b, b < 6 → a ≠ b → (F_2 a).2.1 ≠ (F_2 b).2.1 := by decide +kernel
theorem crf_2 : ∀ k, k < 6 → rf_2 k = (ty_2 k).isReference := by decide +kernel
theorem cin_3 : ∀ w ∈ u_ws "HonestScales$Script" F_3 4, w ∈ lw_tbl ∧ goodWord w = true := by decide +kernel
theorem cty_3 : ∀ k, k < 4 → parseFieldDescriptor (F_3 k).2.2.1 = some (ty_3 k) := by decide +kernel
theorem cnm_3 : ∀ a, a < 4 → ∀ b, b < 4 → a ≠ b → (F_3 a).2.1 ≠ (F_3 b).2.1 := by decide +kernel
theorem crf_3 : ∀ k, k < 4 → rf_3 k = (ty_3 k).isReference := by decide +kernel
theorem cin_4 : ∀ w ∈ u_ws "HonestScales$Bureau" F_4 14, w ∈ lw_tbl ∧ goodWord w = true := by decide +kernel
theorem cty_4 : ∀ k, k < 14 → parseFieldDescriptor (F_4 k).2.2.1 = some (ty_4 k) := by decide +kernel
theorem cnm_4 : ∀ a, a < 14 → ∀ b, b < 14 → a ≠ b → (F_4 a).2.1 ≠ (F_4 b).2.1 := by decide +kernel
theorem crf_4 : ∀ k, k < 14 → rf_4 k = (ty_4 k).isReference := by decide +kernel
theorem cin_5 : ∀ w ∈ u_ws "HonestScales$Shop" F_5 16, w ∈ lw_tbl ∧ goodWord w = true := by decide +kernel
theorem cty_5 : ∀ k, k < 16 → parseFieldDescriptor (F_5 k).2.2.1 = some (ty_5 k) := by decide +kernel
theorem cnm_5 : ∀ a, a < 16 → ∀ b, b < 16 → a ≠ b → (F_5 a).2.1 ≠ (F_5 b).2.1 := by decide +kernel
theorem crf_5 : ∀ k, k < 16 → rf_5 k = (ty_5 k).isReference := by decide +kernel
theorem cin_6 : ∀ w ∈ u_ws "HonestScales$History" F_6 3, w ∈ lw_tbl ∧ goodWord w = true := by decide +kernel
theorem cty_6 : ∀ k, k < 3 → parseFieldDescriptor (F_6 k).2.2.1 = some (ty_6 k) := by decide +kernel
theorem cnm_6 : ∀ a, a < 3 → ∀ b, b < 3 → a ≠ b → (F_6 a).2.1 ≠ (F_6 b).2.1 := by decide +kernel
theorem crf_6 : ∀ k, k < 3 → rf_6 k = (ty_6 k).isReference := by decide +kernel
theorem cin_7 : ∀ w ∈ u_ws "HonestScalesLaw$Bureau" F_7 3, w ∈ lw_tbl ∧ goodWord w = true := by decide +kernel
theorem cty_7 : ∀ k, k < 3 → parseFieldDescriptor (F_7 k).2.2.1 = some (ty_7 k) := by decide +kernel
theorem cnm_7 : ∀ a, a < 3 → ∀ b, b < 3 → a ≠ b → (F_7 a).2.1 ≠ (F_7 b).2.1 := by decide +kernel
theorem crf_7 : ∀ k, k < 3 → rf_7 k = (ty_7 k).isReference := by decide +kernel
theorem cin_8 : ∀ w ∈ u_ws "java/lang/StringBuilder" F_8 4, w ∈ lw_tbl ∧ goodWord w = true := by decide +kernel
theorem cty_8 : ∀ k, k < 4 → parseFieldDescriptor (F_8 k).2.2.1 = some (ty_8 k) := by decide +kernel
theorem cnm_8 : ∀ a, a < 4 → ∀ b, b < 4 → a ≠ b → (F_8 a).2.1 ≠ (F_8 b).2.1 := by decide +kernel
theorem crf_8 : ∀ k, k < 4 → rf_8 k = (ty_8 k).isReference := by decide +kernel
theorem cin_9 : ∀ w ∈ u_ws "HonestScalesLaw$Twin" F_9 15, w ∈ lw_tbl ∧ goodWord w = true := by decide +kernel
theorem cty_9 : ∀ k, k < 15 → parseFieldDescriptor (F_9 k).2.2.1 = some (ty_9 k) := by decide +kernel
theorem cnm_9 : ∀ a, a < 15 → ∀ b, b < 15 → a ≠ b → (F_9 a).2.1 ≠ (F_9 b).2.1 := by decide +kernel
theorem crf_9 : ∀ k, k < 15 → rf_9 k = (ty_9 k).isReference := by decide +kernel
theorem cin_10 : ∀ w ∈ u_ws "java/lang/String" F_10 4, w ∈ lw_tbl ∧ goodWord w = true := by decide +kernel
theorem cty_10 : ∀ k, k < 4 → parseFieldDescriptor (F_10 k).2.2.1 = some (ty_10 k) := by decide +kernel
theorem cnm_10 : ∀ a, a < 4 → ∀ b, b < 4 → a ≠ b → (F_10 a).2.1 ≠ (F_10 b).2.1 := by decide +kernel
theorem crf_10 : ∀ k, k < 4 → rf_10 k = (ty_10 k).isReference := by decide +kernel
/-- what the tables say of the class ci -/
def ClsOk (ci : Nat) (q : vw_C) : Prop := (∀ w ∈ u_ws q.1 q.2.1 q.2.2, w ∈ tG) ∧ (∀ k, k < q.2.2 → parseFieldDescriptor (q.2.1 k).2.2.1 = some (cTy ci k)) ∧ (∀ a, a < q.2.2 → ∀ b, b < q.2.2 → a ≠ b → (q.2.1 a).2.1 ≠ (q.2.1 b).2.1) ∧ (∀ k, k < q.2.2 → cRf ci k = (cTy ci k).isReference) ∧ q.2.2 = cNf ci
theorem cls_ok : ∀ (ci : Nat) (q : vw_C), cls[ci]? = some q → ClsOk ci q := by
  intro ci q hq
  match ci, hq with
  | 0, hq => cases hq; exact ⟨fun w hw => tG_mem (cin_0 w hw).1 (cin_0 w hw).2, cty_0, cnm_0, crf_0, rfl⟩
  | 1, hq => cases hq; exact ⟨fun w hw => tG_mem (cin_1 w hw).1 (cin_1 w hw).2, cty_1, cnm_1, crf_1, rfl⟩
  | 2, hq => cases hq; exact ⟨fun w hw => tG_mem (cin_2 w hw).1 (cin_2 w hw).2, cty_2, cnm_2, crf_2, rfl⟩
  | 3, hq => cases hq; exact ⟨fun w hw => tG_mem (cin_3 w hw).1 (cin_3 w hw).2, cty_3, cnm_3, crf_3, rfl⟩
  | 4, hq => cases hq; exact ⟨fun w hw => tG_mem (cin_4 w hw).1 (cin_4 w hw).2, cty_4, cnm_4, crf_4, rfl⟩
  | 5, hq => cases hq; exact ⟨fun w hw => tG_mem (cin_5 w hw).1 (cin_5 w hw).2, cty_5, cnm_5, crf_5, rfl⟩
  | 6, hq => cases hq; exact ⟨fun w hw => tG_mem (cin_6 w hw).1 (cin_6 w hw).2, cty_6, cnm_6, crf_6, rfl⟩
  | 7, hq => cases hq; exact ⟨fun w hw => tG_mem (cin_7 w hw).1 (cin_7 w hw).2, cty_7, cnm_7, crf_7, rfl⟩
  | 8, hq => cases hq; exact ⟨fun w hw => tG_mem (cin_8 w hw).1 (cin_8 w hw).2, cty_8, cnm_8, crf_8, rfl⟩
  | 9, hq => cases hq; exact ⟨fun w hw => tG_mem (cin_9 w hw).1 (cin_9 w hw).2, cty_9, cnm_9, crf_9, rfl⟩
  | 10, hq => cases hq; exact ⟨fun w hw => tG_mem (cin_10 w hw).1 (cin_10 w hw).2, cty_10, cnm_10, crf_10, rfl⟩
  | n + 11, hq => simp [cls] at hq
