/-! THE LAW: its numbers, its text -/
theorem pk_ex {E : En} (hX : eXl E < 2 ^ 31) : ∃ pk : Nat → Nat → Nat, ∀ k n, k < 1000 → 0 < n → n < 10000 → pk k n < n ∧ ∀ h, CR E m_LW_pick [.ref (eXa E), .int (nI k), .int (nI n)] h (some (.int (nI (pk k n)))) h := by
  refine ⟨fun k n => if hc : k < 1000 ∧ 0 < n ∧ n < 10000 then Classical.choose (cl_LW_pick (E := E) hX hc.1 hc.2.1 hc.2.2) else 0, fun k n h1 h2 h3 => ?_⟩
  have hc : k < 1000 ∧ 0 < n ∧ n < 10000 := ⟨h1, h2, h3⟩
  dsimp only
  rw [dif_pos hc]
  exact Classical.choose_spec (cl_LW_pick (E := E) hX hc.1 hc.2.1 hc.2.2)
def hsP (pk : Nat → Nat → Nat) (k : Nat) : Nat := if k = 0 then pk 0 30 else if k = 1 then pk 1 30 else if k = 2 then pk 2 20 else if k = 3 then 1 + pk 3 30 else if k = 4 then 1 + pk 4 50 else if k = 5 then pk 5 4 else if k = 6 then 16 * pk 6 4096 else 0
def gsP (pk : Nat → Nat → Nat) (j : Nat) : Nat := 1 + j + 10 * pk (9 + j) 400
def rsP (pk : Nat → Nat → Nat) (i k : Nat) : Nat := if k = 0 then pk (13 + i) 200 else if k = 1 then pk (19 + i) 60 + 470 else if k = 2 then pk (25 + i) 41 + 30 else if k = 3 then pk (31 + i) 11 else if k = 4 then 1 + pk (37 + i) 1500 else if k = 5 then pk (43 + i) 30 else if k = 6 then (if pk (49 + i) 3 = 0 then 0 else pk (55 + i) 60) else pk (61 + i) 9
def tvP (pk : Nat → Nat → Nat) (i f : Nat) : Int32 := if f = 0 then nI (rsP pk i 0) else if f = 1 then nI (pk (19 + i) 60) - 30 else if f = 2 then nI (pk (25 + i) 41) - 20 else if f = 3 then nI (pk (31 + i) 11) - 5 else if f = 4 then nI (rsP pk i 4) else if f = 5 then nI (rsP pk i 5) else if f = 6 then nI (rsP pk i 6) else if f = 7 then nI (rsP pk i 7) else if f = 10 then -1 else if f = 12 then 1 else 0
def hwP (pk : Nat → Nat → Nat) (j : Nat) : Int32 := if j < 7 then nI (hsP pk j) else 0
def Pk (pk : Nat → Nat → Nat) : Prop := ∀ k n, k < 1000 → 0 < n → n < 10000 → pk k n < n
section
variable {pk : Nat → Nat → Nat}
theorem hs_b (p : Pk pk) : ∀ k, k < 7 → hsP pk k ≤ [30, 30, 20, 30, 50, 3, 65520].getD k 0 ∧ [0, 0, 0, 1, 1, 0, 0].getD k 0 ≤ hsP pk k := by
  intro k hk
  have a0 := p 0 30 (by decide) (by decide) (by decide)
  have a1 := p 1 30 (by decide) (by decide) (by decide)
  have a2 := p 2 20 (by decide) (by decide) (by decide)
  have a3 := p 3 30 (by decide) (by decide) (by decide)
  have a4 := p 4 50 (by decide) (by decide) (by decide)
  have a5 := p 5 4 (by decide) (by decide) (by decide)
  have a6 := p 6 4096 (by decide) (by decide) (by decide)
  have hk7 : k = 0 ∨ k = 1 ∨ k = 2 ∨ k = 3 ∨ k = 4 ∨ k = 5 ∨ k = 6 := by omega
  rcases hk7 with rfl | rfl | rfl | rfl | rfl | rfl | rfl
  · show pk 0 30 ≤ 30 ∧ 0 ≤ pk 0 30; omega
  · show pk 1 30 ≤ 30 ∧ 0 ≤ pk 1 30; omega
  · show pk 2 20 ≤ 20 ∧ 0 ≤ pk 2 20; omega
  · show 1 + pk 3 30 ≤ 30 ∧ 1 ≤ 1 + pk 3 30; omega
  · show 1 + pk 4 50 ≤ 50 ∧ 1 ≤ 1 + pk 4 50; omega
  · show pk 5 4 ≤ 3 ∧ 0 ≤ pk 5 4; omega
  · show 16 * pk 6 4096 ≤ 65520 ∧ 0 ≤ 16 * pk 6 4096; omega
theorem gs_b (p : Pk pk) {j : Nat} (hj : j < 4) : 1 ≤ gsP pk j ∧ gsP pk j ≤ 4000 ∧ gsP pk j % 10 = 1 + j := by
  have a := p (9 + j) 400 (by omega) (by decide) (by decide)
  unfold gsP
  omega
theorem rs_b (p : Pk pk) {i : Nat} (hi : i < 6) : ∀ k, k < 8 → rsP pk i k ≤ [199, 529, 70, 10, 1500, 29, 59, 8].getD k 0 ∧ [0, 0, 0, 0, 1, 0, 0, 0].getD k 0 ≤ rsP pk i k := by
  intro k hk
  have a0 := p (13 + i) 200 (by omega) (by decide) (by decide)
  have a1 := p (19 + i) 60 (by omega) (by decide) (by decide)
  have a2 := p (25 + i) 41 (by omega) (by decide) (by decide)
  have a3 := p (31 + i) 11 (by omega) (by decide) (by decide)
  have a4 := p (37 + i) 1500 (by omega) (by decide) (by decide)
  have a5 := p (43 + i) 30 (by omega) (by decide) (by decide)
  have a6 := p (55 + i) 60 (by omega) (by decide) (by decide)
  have a7 := p (61 + i) 9 (by omega) (by decide) (by decide)
  have hk8 : k = 0 ∨ k = 1 ∨ k = 2 ∨ k = 3 ∨ k = 4 ∨ k = 5 ∨ k = 6 ∨ k = 7 := by omega
  rcases hk8 with rfl | rfl | rfl | rfl | rfl | rfl | rfl | rfl
  · show pk (13 + i) 200 ≤ 199 ∧ 0 ≤ pk (13 + i) 200; omega
  · show pk (19 + i) 60 + 470 ≤ 529 ∧ 0 ≤ pk (19 + i) 60 + 470; omega
  · show pk (25 + i) 41 + 30 ≤ 70 ∧ 0 ≤ pk (25 + i) 41 + 30; omega
  · show pk (31 + i) 11 ≤ 10 ∧ 0 ≤ pk (31 + i) 11; omega
  · show 1 + pk (37 + i) 1500 ≤ 1500 ∧ 1 ≤ 1 + pk (37 + i) 1500; omega
  · show pk (43 + i) 30 ≤ 29 ∧ 0 ≤ pk (43 + i) 30; omega
  · show (if pk (49 + i) 3 = 0 then 0 else pk (55 + i) 60) ≤ 59 ∧ 0 ≤ (if pk (49 + i) 3 = 0 then 0 else pk (55 + i) 60)
    split <;> omega
  · show pk (61 + i) 9 ≤ 8 ∧ 0 ≤ pk (61 + i) 9; omega
theorem rng {a lo hi : Nat} (h1 : lo ≤ a) (h2 : a ≤ hi) (h3 : hi < 100000) : nI lo ≤ nI a ∧ nI a ≤ nI hi ∧ a < 100000 := ⟨(nI_leI9 (by omega) (by omega)).mpr h1, (nI_leI9 (by omega) (by omega)).mpr h2, by omega⟩
theorem Hb_P (p : Pk pk) {nw sc : Nat} (hn : 1 ≤ nw ∧ nw ≤ 4) (hs : 1 ≤ sc ∧ sc ≤ 6) : Hb (hsP pk) (gsP pk) (rsP pk) nw sc := by
  refine ⟨fun k hk => ?_, ⟨hn.1, by omega⟩, fun a b ha hb e => ?_, fun a ha => ?_, ⟨hs.1, by omega⟩, fun i hi k hk => ?_⟩
  · have z := hs_b p k hk
    have hk7 : k = 0 ∨ k = 1 ∨ k = 2 ∨ k = 3 ∨ k = 4 ∨ k = 5 ∨ k = 6 := by omega
    rcases hk7 with rfl | rfl | rfl | rfl | rfl | rfl | rfl
    · have w : 0 ≤ hsP pk 0 ∧ hsP pk 0 ≤ 30 := ⟨z.2, z.1⟩; exact rng (lo := 0) (hi := 50) w.1 (by omega) (by decide)
    · have w : 0 ≤ hsP pk 1 ∧ hsP pk 1 ≤ 30 := ⟨z.2, z.1⟩; exact rng (lo := 0) (hi := 50) w.1 (by omega) (by decide)
    · have w : 0 ≤ hsP pk 2 ∧ hsP pk 2 ≤ 20 := ⟨z.2, z.1⟩; exact rng (lo := 0) (hi := 99) w.1 (by omega) (by decide)
    · have w : 1 ≤ hsP pk 3 ∧ hsP pk 3 ≤ 30 := ⟨z.2, z.1⟩; exact rng (lo := 1) (hi := 99) w.1 (by omega) (by decide)
    · have w : 1 ≤ hsP pk 4 ∧ hsP pk 4 ≤ 50 := ⟨z.2, z.1⟩; exact rng (lo := 1) (hi := 50) w.1 (by omega) (by decide)
    · have w : 0 ≤ hsP pk 5 ∧ hsP pk 5 ≤ 3 := ⟨z.2, z.1⟩; exact rng (lo := 0) (hi := 3) w.1 (by omega) (by decide)
    · have w : 0 ≤ hsP pk 6 ∧ hsP pk 6 ≤ 65520 := ⟨z.2, z.1⟩; exact rng (lo := 0) (hi := 65536) w.1 (by omega) (by decide)
  · have := gs_b p (j := a) (by omega)
    have := gs_b p (j := b) (by omega)
    omega
  · have := gs_b p (j := a) (by omega)
    omega
  · have z := rs_b p (i := i) (by omega) k hk
    have hk8 : k = 0 ∨ k = 1 ∨ k = 2 ∨ k = 3 ∨ k = 4 ∨ k = 5 ∨ k = 6 ∨ k = 7 := by omega
    rcases hk8 with rfl | rfl | rfl | rfl | rfl | rfl | rfl | rfl
    · have w : 0 ≤ rsP pk i 0 ∧ rsP pk i 0 ≤ 199 := ⟨z.2, z.1⟩; exact rng (lo := 0) (hi := 9999) w.1 (by omega) (by decide)
    · have w : 0 ≤ rsP pk i 1 ∧ rsP pk i 1 ≤ 529 := ⟨z.2, z.1⟩; exact rng (lo := 0) (hi := 1000) w.1 (by omega) (by decide)
    · have w : 0 ≤ rsP pk i 2 ∧ rsP pk i 2 ≤ 70 := ⟨z.2, z.1⟩; exact rng (lo := 0) (hi := 100) w.1 (by omega) (by decide)
    · have w : 0 ≤ rsP pk i 3 ∧ rsP pk i 3 ≤ 10 := ⟨z.2, z.1⟩; exact rng (lo := 0) (hi := 10) w.1 (by omega) (by decide)
    · have w : 1 ≤ rsP pk i 4 ∧ rsP pk i 4 ≤ 1500 := ⟨z.2, z.1⟩; exact rng (lo := 1) (hi := 5000) w.1 (by omega) (by decide)
    · have w : 0 ≤ rsP pk i 5 ∧ rsP pk i 5 ≤ 29 := ⟨z.2, z.1⟩; exact rng (lo := 0) (hi := 50) w.1 (by omega) (by decide)
    · have w : 0 ≤ rsP pk i 6 ∧ rsP pk i 6 ≤ 59 := ⟨z.2, z.1⟩; exact rng (lo := 0) (hi := 100) w.1 (by omega) (by decide)
    · have w : 0 ≤ rsP pk i 7 ∧ rsP pk i 7 ≤ 8 := ⟨z.2, z.1⟩; exact rng (lo := 0) (hi := 30) w.1 (by omega) (by decide)
end
/-! the text so far -/
theorem Nm_snoc (f : Nat → Nat) : ∀ d i, Nm f i (d + 1) = Nm f i d ++ [(2, f (i + d))]
  | 0, _ => rfl
  | d + 1, i => by
    show (2, f i) :: Nm f (i + 1) (d + 1) = ((2, f i) :: Nm f (i + 1) d) ++ [(2, f (i + (d + 1)))]
    rw [Nm_snoc f d (i + 1), show i + 1 + d = i + (d + 1) by omega]
    rfl
theorem Sp_snoc (f : Nat → Nat → Nat) : ∀ d i, Sp f i (d + 1) = Sp f i d ++ ((1, 3) :: (Nm (f (i + d)) 0 8 ++ [(3, 0)]))
  | 0, _ => rfl
  | d + 1, i => by
    show (1, 3) :: (Nm (f i) 0 8 ++ (3, 0) :: Sp f (i + 1) (d + 1)) = ((1, 3) :: (Nm (f i) 0 8 ++ (3, 0) :: Sp f (i + 1) d)) ++ _
    rw [Sp_snoc f d (i + 1), show i + 1 + d = i + (d + 1) by omega]
    simp [List.append_assoc]
def tA (hs : Nat → Nat) (k : Nat) : List Int32 := rns ((1, 1) :: Nm hs 0 k)
def tB (hs gs : Nat → Nat) (k : Nat) : List Int32 := tA hs 7 ++ rns ((3, 0) :: (1, 2) :: Nm gs 0 k)
def tC (hs gs : Nat → Nat) (rs : Nat → Nat → Nat) (nw k : Nat) : List Int32 := tB hs gs nw ++ rns ((3, 0) :: Sp rs 0 k)
theorem dg_len {w : Nat} : (dgF w (dgL w)).length = dgL w := dgF_len _ _
theorem tA_0 {hs : Nat → Nat} : tA hs 0 = strB.getD 1 [] := by
  show rn (1, 1) ++ [] = _
  rw [List.append_nil]
  rfl
theorem tA_s {hs : Nat → Nat} {k : Nat} : tA hs (k + 1) = tA hs k ++ strB.getD 4 [] ++ dgF (hs k) (dgL (hs k)) := by
  unfold tA
  rw [Nm_snoc, ← List.cons_append, rns_app, List.append_assoc, Nat.zero_add]
  refine congrArg (rns ((1, 1) :: Nm hs 0 k) ++ ·) ?_
  show rn (2, hs k) ++ [] = _
  rw [List.append_nil]
  rfl
theorem tB_0 {hs gs : Nat → Nat} : tB hs gs 0 = tA hs 7 ++ strB.getD 5 [] := by
  refine congrArg (tA hs 7 ++ ·) ?_
  rfl
theorem tB_s {hs gs : Nat → Nat} {k : Nat} : tB hs gs (k + 1) = tB hs gs k ++ strB.getD 4 [] ++ dgF (gs k) (dgL (gs k)) := by
  unfold tB
  rw [Nm_snoc, ← List.cons_append, ← List.cons_append, rns_app, List.append_assoc, List.append_assoc, Nat.zero_add]
  refine congrArg (fun x => tA hs 7 ++ (rns ((3, 0) :: (1, 2) :: Nm gs 0 k) ++ x)) ?_
  show rn (2, gs k) ++ [] = _
  rw [List.append_nil]
  rfl
theorem tC_0 {hs gs : Nat → Nat} {rs : Nat → Nat → Nat} {nw : Nat} : tC hs gs rs nw 0 = tB hs gs nw ++ strB.getD 6 [] := by
  refine congrArg (tB hs gs nw ++ ·) ?_
  rfl
theorem tC_s {hs gs : Nat → Nat} {rs : Nat → Nat → Nat} {nw k : Nat} : tC hs gs rs nw (k + 1) = tC hs gs rs nw k ++ strB.getD 7 [] ++ dgF (rs k 0) (dgL (rs k 0)) ++ strB.getD 4 [] ++ dgF (rs k 1) (dgL (rs k 1)) ++ strB.getD 4 [] ++ dgF (rs k 2) (dgL (rs k 2)) ++ strB.getD 4 [] ++ dgF (rs k 3) (dgL (rs k 3)) ++ strB.getD 4 [] ++ dgF (rs k 4) (dgL (rs k 4)) ++ strB.getD 4 [] ++ dgF (rs k 5) (dgL (rs k 5)) ++ strB.getD 4 [] ++ dgF (rs k 6) (dgL (rs k 6)) ++ strB.getD 4 [] ++ dgF (rs k 7) (dgL (rs k 7)) ++ strB.getD 6 [] := by
  unfold tC
  rw [Sp_snoc, ← List.cons_append, rns_app, Nat.zero_add]
  simp only [List.append_assoc]
  refine congrArg (fun x => tB hs gs nw ++ (rns ((3, 0) :: Sp rs 0 k) ++ x)) ?_
  simp only [rns, Nm, rns_app, List.append_assoc, List.cons_append, List.nil_append, List.append_nil]
  rfl
theorem tC_all {hs gs : Nat → Nat} {rs : Nat → Nat → Nat} {nw sc : Nat} : tC hs gs rs nw sc = rns (Setup hs gs rs nw sc) := by
  unfold tC tB tA Setup
  rw [← rns_app, ← rns_app]
  simp only [List.cons_append, List.append_assoc]
theorem dl1 {w : Nat} (h : w < 10) : dgL w ≤ 1 := by unfold dgL; rw [if_pos h]; exact Nat.le_refl _
theorem dl2 {w : Nat} (h : w < 100) : dgL w ≤ 2 := by
  unfold dgL
  by_cases h1 : w < 10
  · rw [if_pos h1]; decide
  · rw [if_neg h1, if_pos h]; exact Nat.le_refl _
theorem dl3 {w : Nat} (h : w < 1000) : dgL w ≤ 3 := by
  by_cases h1 : w < 100
  · exact Nat.le_trans (dl2 h1) (by decide)
  · unfold dgL
    rw [if_neg (by omega), if_neg h1, if_pos h]
    exact Nat.le_refl _
theorem dl4 {w : Nat} (h : w < 10000) : dgL w ≤ 4 := by
  by_cases h1 : w < 1000
  · exact Nat.le_trans (dl3 h1) (by decide)
  · unfold dgL
    rw [if_neg (by omega), if_neg (by omega), if_neg h1, if_pos h]
    exact Nat.le_refl _
theorem ln4 : (strB.getD 4 []).length = 1 := rfl
theorem ln5 : (strB.getD 5 []).length = 8 := rfl
theorem ln6 : (strB.getD 6 []).length = 1 := rfl
theorem ln7 : (strB.getD 7 []).length = 5 := rfl
theorem tA_l {hs : Nat → Nat} (h : ∀ k, k < 7 → hs k < 100000) : ∀ k, k ≤ 7 → (tA hs k).length ≤ 6 + 6 * k
  | 0, _ => by rw [tA_0]; decide
  | k + 1, hk => by
    have := tA_l h k (by omega)
    have := (dgL_pow (h k (by omega))).2.2
    rw [tA_s, List.length_append, List.length_append, ln4, dg_len]
    omega
theorem tB_l {hs gs : Nat → Nat} (h : ∀ k, k < 7 → hs k < 100000) {nw : Nat} (g : ∀ k, k < nw → gs k < 10000) : ∀ k, k ≤ nw → (tB hs gs k).length ≤ 56 + 5 * k
  | 0, _ => by
    have := tA_l h 7 (Nat.le_refl _)
    rw [tB_0, List.length_append, ln5]
    omega
  | k + 1, hk => by
    have := tB_l h g k (by omega)
    have := dl4 (g k (by omega))
    rw [tB_s, List.length_append, List.length_append, ln4, dg_len]
    omega
def Rb (rs : Nat → Nat) : Prop := rs 0 < 1000 ∧ rs 1 < 1000 ∧ rs 2 < 100 ∧ rs 3 < 100 ∧ rs 4 < 10000 ∧ rs 5 < 100 ∧ rs 6 < 100 ∧ rs 7 < 10
theorem tC_l {hs gs : Nat → Nat} {rs : Nat → Nat → Nat} (h : ∀ k, k < 7 → hs k < 100000) {nw sc : Nat} (n4 : nw ≤ 4) (g : ∀ k, k < nw → gs k < 10000) (r : ∀ i, i < sc → Rb (rs i)) : ∀ k, k ≤ sc → (tC hs gs rs nw k).length ≤ 77 + 32 * k
  | 0, _ => by
    have := tB_l h g nw (Nat.le_refl _)
    rw [tC_0, List.length_append, ln6]
    omega
  | k + 1, hk => by
    have := tC_l h n4 g r k (by omega)
    obtain ⟨r0, r1, r2, r3, r4, r5, r6, r7⟩ := r k (by omega)
    have := dl3 r0
    have := dl3 r1
    have := dl2 r2
    have := dl2 r3
    have := dl4 r4
    have := dl2 r5
    have := dl2 r6
    have := dl1 r7
    rw [tC_s]
    simp only [List.length_append, ln4, ln6, ln7, dg_len]
    omega
theorem Rb_P {pk : Nat → Nat → Nat} (p : Pk pk) {i : Nat} (hi : i < 6) : Rb (rsP pk i) := by
  have z := rs_b p hi
  have z0 : rsP pk i 0 ≤ 199 := (z 0 (by decide)).1
  have z1 : rsP pk i 1 ≤ 529 := (z 1 (by decide)).1
  have z2 : rsP pk i 2 ≤ 70 := (z 2 (by decide)).1
  have z3 : rsP pk i 3 ≤ 10 := (z 3 (by decide)).1
  have z4 : rsP pk i 4 ≤ 1500 := (z 4 (by decide)).1
  have z5 : rsP pk i 5 ≤ 29 := (z 5 (by decide)).1
  have z6 : rsP pk i 6 ≤ 59 := (z 6 (by decide)).1
  have z7 : rsP pk i 7 ≤ 8 := (z 7 (by decide)).1
  exact ⟨by omega, by omega, by omega, by omega, by omega, by omega, by omega, by omega⟩
set_option maxRecDepth 20000 in
theorem cl_TW_init {E : En} {h : Hp} {t : Nat} (k_t : hK h t = 10) : CR E m_TW_init [.ref t] h (none) ((sI (sI h t 10 (-1)) t 12 1)) := by
  refine ct_of rfl (by decide +kernel) (Nat.le_of_ble_eq_true rfl) ?_
  show G E m_TW_init 0 [(0, .ref t)] [] h 0 0 _ noX
  refine g_aload_n (pc := 0) d_TW_init_0 rfl 0 rfl ?_
  refine g_objInit (pc := 1) d_TW_init_1 oi_TW_init (Nat.le_of_ble_eq_true rfl) (Nat.le_of_ble_eq_true rfl) (Nat.le_of_ble_eq_true rfl) ?_
  refine g_aload_n (pc := 4) d_TW_init_4 rfl 0 rfl ?_
  refine g_iconst (pc := 5) (v := (-1)) d_TW_init_5 (by decide) ?_
  refine g_putI (pc := 6) (ci := 9) (f := 10) rfl d_TW_init_6 fl_TW_7 (fun q hq => by cases hq; exact rfl) rfl rfl (by decide) (by exact k_t) ?_
  refine g_aload_n (pc := 9) d_TW_init_9 rfl 0 rfl ?_
  refine g_iconst (pc := 10) (v := 1) d_TW_init_10 (by decide) ?_
  refine g_putI (pc := 11) (ci := 9) (f := 12) rfl d_TW_init_11 fl_TW_13 (fun q hq => by cases hq; exact rfl) (by rfl) (by rfl) (by decide) (by exact k_t) ?_
  refine g_vret (pc := 14) d_TW_init_14 rfl ?_
  exact ⟨rfl, rfl⟩
set_option maxRecDepth 20000 in
theorem cl_LB_init {E : En} {h : Hp} {b : Nat} (k_b : hK h b = 8) : CT E m_LB_init [.ref b] h 1 10 (fun v h1 => ∃ ha, hK h ha = 0 ∧ v = none ∧ h1 = sR (hNew h ha 20 10) b 0 (some ha)) noX := by
  refine ct_of rfl (by decide +kernel) (Nat.le_of_ble_eq_true rfl) ?_
  show G E m_LB_init 0 [(0, .ref b)] [] h (0 + 1) (0 + 10) _ noX
  refine g_aload_n (pc := 0) d_LB_init_0 rfl 0 rfl ?_
  refine g_objInit (pc := 1) d_LB_init_1 oi_LB_init (Nat.le_of_ble_eq_true rfl) (Nat.le_of_ble_eq_true rfl) (Nat.le_of_ble_eq_true rfl) ?_
  refine g_aload_n (pc := 4) d_LB_init_4 rfl 0 rfl ?_
  refine g_bipush (pc := 5) (v := 10) d_LB_init_5 (by decide) ?_
  refine g_newarray (k := 0) (n := 0) (pc := 7) (kd := 20) (N := 10) d_LB_init_7 ⟨by decide, by decide⟩ rfl ac_i (by decide) (by decide) (by decide) (fun ha hh => ?_)
  refine g_putR (pc := 9) (ci := 7) (f := 0) rfl d_LB_init_9 fl_LB_7 (fun q hq => by cases hq; exact rfl) rfl rfl (by decide) (by show u1 (hK h) ha 20 b = 8; rw [u1_ne (fun z => by rw [z] at k_b; rw [hh] at k_b; exact absurd k_b (by decide))]; exact k_b) ?_
  refine g_vret (pc := 12) d_LB_init_12 rfl ?_
  exact ⟨ha, hh, rfl, rfl⟩
