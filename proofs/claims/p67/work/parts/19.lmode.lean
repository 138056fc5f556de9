/-! A HEAP WITH SOME CELLS' ROWS WRITTEN OUT: wL h [(a, f), ..] -/
def wLf (h : Hp) : List (Nat × (Nat → Int32)) → Nat → Nat → Int32
  | [], q => hI h q
  | (a, f) :: l, q => if q = a then f else wLf h l q
def wL (h : Hp) (L : List (Nat × (Nat → Int32))) : Hp := (wLf h L, h.2)
theorem hI_wL (h : Hp) (L : List (Nat × (Nat → Int32))) (q : Nat) : hI (wL h L) q = wLf h L q := rfl
theorem wL_nil (h : Hp) : wL h [] = h := rfl
theorem wL_one (h : Hp) (a : Nat) (f : Nat → Int32) : wL h [(a, f)] = sA h a f := rfl
theorem wLf_at {h : Hp} : ∀ {L : List (Nat × (Nat → Int32))} (w : Nat) {a : Nat} {f : Nat → Int32}, L[w]? = some (a, f) → (L.map Prod.fst).Nodup → wLf h L a = f
  | (b, g) :: L, 0, a, f, e, _ => by
    cases e
    exact if_pos rfl
  | (b, g) :: L, w + 1, a, f, e, n => by
    have n' := List.nodup_cons.mp n
    have hm : a ∈ L.map Prod.fst := List.mem_map.mpr ⟨(a, f), List.mem_of_getElem? e, rfl⟩
    have hab : a ≠ b := fun z => n'.1 (z ▸ hm)
    show (if a = b then g else wLf h L a) = f
    rw [if_neg hab]
    exact wLf_at w e n'.2
theorem wLf_set {h : Hp} : ∀ {L : List (Nat × (Nat → Int32))} (w : Nat) {a : Nat} {f g : Nat → Int32}, L[w]? = some (a, f) → (L.map Prod.fst).Nodup → (fun q => if q = a then g else wLf h L q) = wLf h (L.set w (a, g))
  | (b, x) :: L, 0, a, f, g, e, _ => by
    cases e
    funext q
    show (if q = b then g else if q = b then x else wLf h L q) = if q = b then g else wLf h L q
    by_cases hq : q = b
    · rw [if_pos hq, if_pos hq]
    · rw [if_neg hq, if_neg hq, if_neg hq]
  | (b, x) :: L, w + 1, a, f, g, e, n => by
    have n' := List.nodup_cons.mp n
    have hm : a ∈ L.map Prod.fst := List.mem_map.mpr ⟨(a, f), List.mem_of_getElem? e, rfl⟩
    have hab : a ≠ b := fun z => n'.1 (z ▸ hm)
    funext q
    show (if q = a then g else if q = b then x else wLf h L q) = if q = b then x else wLf h (L.set w (a, g)) q
    rw [← congrFun (wLf_set (h := h) (g := g) w e n'.2) q]
    show (if q = a then g else if q = b then x else wLf h L q) = if q = b then x else if q = a then g else wLf h L q
    by_cases hq : q = a
    · rw [if_pos hq, if_pos hq, if_neg (fun z => hab (hq ▸ z))]
    · rw [if_neg hq, if_neg hq]
theorem wL_sA {h : Hp} {L : List (Nat × (Nat → Int32))} (w : Nat) {a : Nat} {f g : Nat → Int32} (e : L[w]? = some (a, f)) (n : (L.map Prod.fst).Nodup) : sA (wL h L) a g = wL h (L.set w (a, g)) := Prod.ext (wLf_set w e n) rfl
theorem wL_sI {h : Hp} {L : List (Nat × (Nat → Int32))} (w : Nat) {a k : Nat} {v : Int32} {f : Nat → Int32} (e : L[w]? = some (a, f)) (n : (L.map Prod.fst).Nodup) : sI (wL h L) a k v = wL h (L.set w (a, u1 f k v)) := by
  rw [sI_sA, hI_wL, wLf_at w e n, wL_sA w e n]
theorem wLf_out {h : Hp} {q : Nat} : ∀ {L : List (Nat × (Nat → Int32))}, q ∉ L.map Prod.fst → wLf h L q = hI h q
  | [], _ => rfl
  | (b, x) :: L, n => by
    have n1 : ¬ q = b := fun z => n (by rw [z]; exact List.mem_cons_self)
    show (if q = b then x else wLf h L q) = hI h q
    rw [if_neg n1]
    exact wLf_out (fun z => n (List.mem_cons_of_mem _ z))
theorem wL_self {h : Hp} : ∀ {L : List Nat}, wL h (L.map fun a => (a, hI h a)) = h := by
  intro L
  refine Prod.ext ?_ rfl
  show wLf h _ = hI h
  induction L with
  | nil => rfl
  | cons b L ih =>
    funext q
    show (if q = b then hI h b else wLf h (L.map fun a => (a, hI h a)) q) = hI h q
    rw [ih]
    by_cases e : q = b
    · rw [if_pos e, e]
    · rw [if_neg e]
theorem g_top2 {E : En} {M : Mt} {pc : Nat} {lv : List (Nat × Value)} {st : List Value} {h : Hp} {k n : Nat} {P : Option Value → Hp → Prop} {X : String → Hp → Prop} {x y : Int32} {v : Value} (e : x = y) (kk : G E M pc lv (v :: .int y :: st) h k n P X) : G E M pc lv (v :: .int x :: st) h k n P X := by rw [e]; exact kk
section
variable {E : En} {M : Mt} {pc : Nat} {lv : List (Nat × Value)} {st : List Value} {h : Hp} {k n : Nat} {P : Option Value → Hp → Prop} {X : String → Hp → Prop} {idx ci f a j len : Nat} {v : Int32} {g : Nat → Int32} {R : List (Nat × (Nat → Int32))}
theorem g_lgI0 (hr : cRf ci f = false) (hd : decode (mC M) pc = .ok (.getfield idx, 3)) (hf : FLk (mY M).cls idx ci f) (hci : ci < 19) (hk : hK h a = ci + 1) (nd : (((a, g) :: R).map Prod.fst).Nodup)
    (kk : G E M (pc + 3) lv (.int (g f) :: st) (wL h ((a, g) :: R)) k n P X) : G E M pc lv (.ref a :: st) (wL h ((a, g) :: R)) k n P X := g_getIX (g f) hr hd hf hci hk (congrFun (wLf_at 0 rfl nd) f) kk
theorem g_lpI0 (hr : cRf ci f = false) (hd : decode (mC M) pc = .ok (.putfield idx, 3)) (hf : FLk (mY M).cls idx ci f) (hfin : ∀ q, cls[ci]? = some q → (q.2.1 f).2.2.2 = false) (hn : narrow (cTy ci f) (.int v) = .int v) (hfit : fits (cTy ci f) (.int v) = true) (hci : ci < 19) (hk : hK h a = ci + 1) (nd : (((a, g) :: R).map Prod.fst).Nodup)
    (kk : G E M (pc + 3) lv st (wL h ((a, u1 g f v) :: R)) k n P X) : G E M pc lv (.int v :: .ref a :: st) (wL h ((a, g) :: R)) k n P X := g_putI hr hd hf hfin hn hfit hci hk (g_h (wL_sI 0 rfl nd) kk)
theorem g_lia0 (hd : decode (mC M) pc = .ok (.iaload, 1)) (hk : hK h a = 20) (hl : hL h a = len) (hj : j < len) (hlen : len < 2 ^ 31) (nd : (((a, g) :: R).map Prod.fst).Nodup)
    (kk : G E M (pc + 1) lv (.int (g j) :: st) (wL h ((a, g) :: R)) k n P X) : G E M pc lv (.int (nI j) :: .ref a :: st) (wL h ((a, g) :: R)) k n P X :=
  g_iaload hd hk (vp_in_nI (show j < hL h a by rw [hl]; exact hj) (show hL h a < 2 ^ 31 by rw [hl]; exact hlen)) (by rw [nI_clamp (Nat.lt_trans hj hlen), hI_wL, wLf_at 0 rfl nd]; exact kk)
theorem g_lba0 (hd : decode (mC M) pc = .ok (.baload, 1)) (hk : hK h a = 21) (hl : hL h a = len) (hj : j < len) (hlen : len < 2 ^ 31) (nd : (((a, g) :: R).map Prod.fst).Nodup)
    (kk : G E M (pc + 1) lv (.int (g j) :: st) (wL h ((a, g) :: R)) k n P X) : G E M pc lv (.int (nI j) :: .ref a :: st) (wL h ((a, g) :: R)) k n P X :=
  g_baload hd hk (vp_in_nI (show j < hL h a by rw [hl]; exact hj) (show hL h a < 2 ^ 31 by rw [hl]; exact hlen)) (by rw [nI_clamp (Nat.lt_trans hj hlen), hI_wL, wLf_at 0 rfl nd]; exact kk)
theorem g_lza0 (hd : decode (mC M) pc = .ok (.baload, 1)) (hk : hK h a = 22) (hl : hL h a = len) (hj : j < len) (hlen : len < 2 ^ 31) (nd : (((a, g) :: R).map Prod.fst).Nodup)
    (kk : G E M (pc + 1) lv (.int (g j) :: st) (wL h ((a, g) :: R)) k n P X) : G E M pc lv (.int (nI j) :: .ref a :: st) (wL h ((a, g) :: R)) k n P X :=
  g_zaload hd hk (vp_in_nI (show j < hL h a by rw [hl]; exact hj) (show hL h a < 2 ^ 31 by rw [hl]; exact hlen)) (by rw [nI_clamp (Nat.lt_trans hj hlen), hI_wL, wLf_at 0 rfl nd]; exact kk)
theorem g_lca0 (hd : decode (mC M) pc = .ok (.caload, 1)) (hk : hK h a = 23) (hl : hL h a = len) (hj : j < len) (hlen : len < 2 ^ 31) (nd : (((a, g) :: R).map Prod.fst).Nodup)
    (kk : G E M (pc + 1) lv (.int (g j) :: st) (wL h ((a, g) :: R)) k n P X) : G E M pc lv (.int (nI j) :: .ref a :: st) (wL h ((a, g) :: R)) k n P X :=
  g_caload hd hk (vp_in_nI (show j < hL h a by rw [hl]; exact hj) (show hL h a < 2 ^ 31 by rw [hl]; exact hlen)) (by rw [nI_clamp (Nat.lt_trans hj hlen), hI_wL, wLf_at 0 rfl nd]; exact kk)
theorem g_lis0 (hd : decode (mC M) pc = .ok (.iastore, 1)) (hk : hK h a = 20) (hl : hL h a = len) (hj : j < len) (hlen : len < 2 ^ 31) (nd : (((a, g) :: R).map Prod.fst).Nodup)
    (kk : G E M (pc + 1) lv st (wL h ((a, u1 g j v) :: R)) k n P X) : G E M pc lv (.int v :: .int (nI j) :: .ref a :: st) (wL h ((a, g) :: R)) k n P X :=
  g_iastore hd hk (vp_in_nI (show j < hL h a by rw [hl]; exact hj) (show hL h a < 2 ^ 31 by rw [hl]; exact hlen)) (by rw [nI_clamp (Nat.lt_trans hj hlen), wL_sI 0 rfl nd]; exact kk)
theorem g_lbs0 (hd : decode (mC M) pc = .ok (.bastore, 1)) (hk : hK h a = 21) (hl : hL h a = len) (hj : j < len) (hlen : len < 2 ^ 31) (nd : (((a, g) :: R).map Prod.fst).Nodup)
    (kk : G E M (pc + 1) lv st (wL h ((a, u1 g j (vp_nar .byte v)) :: R)) k n P X) : G E M pc lv (.int v :: .int (nI j) :: .ref a :: st) (wL h ((a, g) :: R)) k n P X :=
  g_bastore hd hk (vp_in_nI (show j < hL h a by rw [hl]; exact hj) (show hL h a < 2 ^ 31 by rw [hl]; exact hlen)) (by rw [nI_clamp (Nat.lt_trans hj hlen), wL_sI 0 rfl nd]; exact kk)
theorem g_lzs0 (hd : decode (mC M) pc = .ok (.bastore, 1)) (hk : hK h a = 22) (hl : hL h a = len) (hj : j < len) (hlen : len < 2 ^ 31) (nd : (((a, g) :: R).map Prod.fst).Nodup)
    (kk : G E M (pc + 1) lv st (wL h ((a, u1 g j (vp_nar .boolean v)) :: R)) k n P X) : G E M pc lv (.int v :: .int (nI j) :: .ref a :: st) (wL h ((a, g) :: R)) k n P X :=
  g_zastore hd hk (vp_in_nI (show j < hL h a by rw [hl]; exact hj) (show hL h a < 2 ^ 31 by rw [hl]; exact hlen)) (by rw [nI_clamp (Nat.lt_trans hj hlen), wL_sI 0 rfl nd]; exact kk)
theorem g_lcs0 (hd : decode (mC M) pc = .ok (.castore, 1)) (hk : hK h a = 23) (hl : hL h a = len) (hj : j < len) (hlen : len < 2 ^ 31) (nd : (((a, g) :: R).map Prod.fst).Nodup)
    (kk : G E M (pc + 1) lv st (wL h ((a, u1 g j (vp_nar .char v)) :: R)) k n P X) : G E M pc lv (.int v :: .int (nI j) :: .ref a :: st) (wL h ((a, g) :: R)) k n P X :=
  g_castore hd hk (vp_in_nI (show j < hL h a by rw [hl]; exact hj) (show hL h a < 2 ^ 31 by rw [hl]; exact hlen)) (by rw [nI_clamp (Nat.lt_trans hj hlen), wL_sI 0 rfl nd]; exact kk)
theorem g_lgI1 {p0 : Nat × (Nat → Int32)} (hr : cRf ci f = false) (hd : decode (mC M) pc = .ok (.getfield idx, 3)) (hf : FLk (mY M).cls idx ci f) (hci : ci < 19) (hk : hK h a = ci + 1) (nd : ((p0 :: (a, g) :: R).map Prod.fst).Nodup)
    (kk : G E M (pc + 3) lv (.int (g f) :: st) (wL h (p0 :: (a, g) :: R)) k n P X) : G E M pc lv (.ref a :: st) (wL h (p0 :: (a, g) :: R)) k n P X := g_getIX (g f) hr hd hf hci hk (congrFun (wLf_at 1 rfl nd) f) kk
theorem g_lpI1 {p0 : Nat × (Nat → Int32)} (hr : cRf ci f = false) (hd : decode (mC M) pc = .ok (.putfield idx, 3)) (hf : FLk (mY M).cls idx ci f) (hfin : ∀ q, cls[ci]? = some q → (q.2.1 f).2.2.2 = false) (hn : narrow (cTy ci f) (.int v) = .int v) (hfit : fits (cTy ci f) (.int v) = true) (hci : ci < 19) (hk : hK h a = ci + 1) (nd : ((p0 :: (a, g) :: R).map Prod.fst).Nodup)
    (kk : G E M (pc + 3) lv st (wL h (p0 :: (a, u1 g f v) :: R)) k n P X) : G E M pc lv (.int v :: .ref a :: st) (wL h (p0 :: (a, g) :: R)) k n P X := g_putI hr hd hf hfin hn hfit hci hk (g_h (wL_sI 1 rfl nd) kk)
theorem g_lia1 {p0 : Nat × (Nat → Int32)} (hd : decode (mC M) pc = .ok (.iaload, 1)) (hk : hK h a = 20) (hl : hL h a = len) (hj : j < len) (hlen : len < 2 ^ 31) (nd : ((p0 :: (a, g) :: R).map Prod.fst).Nodup)
    (kk : G E M (pc + 1) lv (.int (g j) :: st) (wL h (p0 :: (a, g) :: R)) k n P X) : G E M pc lv (.int (nI j) :: .ref a :: st) (wL h (p0 :: (a, g) :: R)) k n P X :=
  g_iaload hd hk (vp_in_nI (show j < hL h a by rw [hl]; exact hj) (show hL h a < 2 ^ 31 by rw [hl]; exact hlen)) (by rw [nI_clamp (Nat.lt_trans hj hlen), hI_wL, wLf_at 1 rfl nd]; exact kk)
theorem g_lba1 {p0 : Nat × (Nat → Int32)} (hd : decode (mC M) pc = .ok (.baload, 1)) (hk : hK h a = 21) (hl : hL h a = len) (hj : j < len) (hlen : len < 2 ^ 31) (nd : ((p0 :: (a, g) :: R).map Prod.fst).Nodup)
    (kk : G E M (pc + 1) lv (.int (g j) :: st) (wL h (p0 :: (a, g) :: R)) k n P X) : G E M pc lv (.int (nI j) :: .ref a :: st) (wL h (p0 :: (a, g) :: R)) k n P X :=
  g_baload hd hk (vp_in_nI (show j < hL h a by rw [hl]; exact hj) (show hL h a < 2 ^ 31 by rw [hl]; exact hlen)) (by rw [nI_clamp (Nat.lt_trans hj hlen), hI_wL, wLf_at 1 rfl nd]; exact kk)
theorem g_lza1 {p0 : Nat × (Nat → Int32)} (hd : decode (mC M) pc = .ok (.baload, 1)) (hk : hK h a = 22) (hl : hL h a = len) (hj : j < len) (hlen : len < 2 ^ 31) (nd : ((p0 :: (a, g) :: R).map Prod.fst).Nodup)
    (kk : G E M (pc + 1) lv (.int (g j) :: st) (wL h (p0 :: (a, g) :: R)) k n P X) : G E M pc lv (.int (nI j) :: .ref a :: st) (wL h (p0 :: (a, g) :: R)) k n P X :=
  g_zaload hd hk (vp_in_nI (show j < hL h a by rw [hl]; exact hj) (show hL h a < 2 ^ 31 by rw [hl]; exact hlen)) (by rw [nI_clamp (Nat.lt_trans hj hlen), hI_wL, wLf_at 1 rfl nd]; exact kk)
theorem g_lca1 {p0 : Nat × (Nat → Int32)} (hd : decode (mC M) pc = .ok (.caload, 1)) (hk : hK h a = 23) (hl : hL h a = len) (hj : j < len) (hlen : len < 2 ^ 31) (nd : ((p0 :: (a, g) :: R).map Prod.fst).Nodup)
    (kk : G E M (pc + 1) lv (.int (g j) :: st) (wL h (p0 :: (a, g) :: R)) k n P X) : G E M pc lv (.int (nI j) :: .ref a :: st) (wL h (p0 :: (a, g) :: R)) k n P X :=
  g_caload hd hk (vp_in_nI (show j < hL h a by rw [hl]; exact hj) (show hL h a < 2 ^ 31 by rw [hl]; exact hlen)) (by rw [nI_clamp (Nat.lt_trans hj hlen), hI_wL, wLf_at 1 rfl nd]; exact kk)
theorem g_lis1 {p0 : Nat × (Nat → Int32)} (hd : decode (mC M) pc = .ok (.iastore, 1)) (hk : hK h a = 20) (hl : hL h a = len) (hj : j < len) (hlen : len < 2 ^ 31) (nd : ((p0 :: (a, g) :: R).map Prod.fst).Nodup)
    (kk : G E M (pc + 1) lv st (wL h (p0 :: (a, u1 g j v) :: R)) k n P X) : G E M pc lv (.int v :: .int (nI j) :: .ref a :: st) (wL h (p0 :: (a, g) :: R)) k n P X :=
  g_iastore hd hk (vp_in_nI (show j < hL h a by rw [hl]; exact hj) (show hL h a < 2 ^ 31 by rw [hl]; exact hlen)) (by rw [nI_clamp (Nat.lt_trans hj hlen), wL_sI 1 rfl nd]; exact kk)
theorem g_lbs1 {p0 : Nat × (Nat → Int32)} (hd : decode (mC M) pc = .ok (.bastore, 1)) (hk : hK h a = 21) (hl : hL h a = len) (hj : j < len) (hlen : len < 2 ^ 31) (nd : ((p0 :: (a, g) :: R).map Prod.fst).Nodup)
    (kk : G E M (pc + 1) lv st (wL h (p0 :: (a, u1 g j (vp_nar .byte v)) :: R)) k n P X) : G E M pc lv (.int v :: .int (nI j) :: .ref a :: st) (wL h (p0 :: (a, g) :: R)) k n P X :=
  g_bastore hd hk (vp_in_nI (show j < hL h a by rw [hl]; exact hj) (show hL h a < 2 ^ 31 by rw [hl]; exact hlen)) (by rw [nI_clamp (Nat.lt_trans hj hlen), wL_sI 1 rfl nd]; exact kk)
theorem g_lzs1 {p0 : Nat × (Nat → Int32)} (hd : decode (mC M) pc = .ok (.bastore, 1)) (hk : hK h a = 22) (hl : hL h a = len) (hj : j < len) (hlen : len < 2 ^ 31) (nd : ((p0 :: (a, g) :: R).map Prod.fst).Nodup)
    (kk : G E M (pc + 1) lv st (wL h (p0 :: (a, u1 g j (vp_nar .boolean v)) :: R)) k n P X) : G E M pc lv (.int v :: .int (nI j) :: .ref a :: st) (wL h (p0 :: (a, g) :: R)) k n P X :=
  g_zastore hd hk (vp_in_nI (show j < hL h a by rw [hl]; exact hj) (show hL h a < 2 ^ 31 by rw [hl]; exact hlen)) (by rw [nI_clamp (Nat.lt_trans hj hlen), wL_sI 1 rfl nd]; exact kk)
theorem g_lcs1 {p0 : Nat × (Nat → Int32)} (hd : decode (mC M) pc = .ok (.castore, 1)) (hk : hK h a = 23) (hl : hL h a = len) (hj : j < len) (hlen : len < 2 ^ 31) (nd : ((p0 :: (a, g) :: R).map Prod.fst).Nodup)
    (kk : G E M (pc + 1) lv st (wL h (p0 :: (a, u1 g j (vp_nar .char v)) :: R)) k n P X) : G E M pc lv (.int v :: .int (nI j) :: .ref a :: st) (wL h (p0 :: (a, g) :: R)) k n P X :=
  g_castore hd hk (vp_in_nI (show j < hL h a by rw [hl]; exact hj) (show hL h a < 2 ^ 31 by rw [hl]; exact hlen)) (by rw [nI_clamp (Nat.lt_trans hj hlen), wL_sI 1 rfl nd]; exact kk)
theorem g_lgI2 {p0 p1 : Nat × (Nat → Int32)} (hr : cRf ci f = false) (hd : decode (mC M) pc = .ok (.getfield idx, 3)) (hf : FLk (mY M).cls idx ci f) (hci : ci < 19) (hk : hK h a = ci + 1) (nd : ((p0 :: p1 :: (a, g) :: R).map Prod.fst).Nodup)
    (kk : G E M (pc + 3) lv (.int (g f) :: st) (wL h (p0 :: p1 :: (a, g) :: R)) k n P X) : G E M pc lv (.ref a :: st) (wL h (p0 :: p1 :: (a, g) :: R)) k n P X := g_getIX (g f) hr hd hf hci hk (congrFun (wLf_at 2 rfl nd) f) kk
theorem g_lpI2 {p0 p1 : Nat × (Nat → Int32)} (hr : cRf ci f = false) (hd : decode (mC M) pc = .ok (.putfield idx, 3)) (hf : FLk (mY M).cls idx ci f) (hfin : ∀ q, cls[ci]? = some q → (q.2.1 f).2.2.2 = false) (hn : narrow (cTy ci f) (.int v) = .int v) (hfit : fits (cTy ci f) (.int v) = true) (hci : ci < 19) (hk : hK h a = ci + 1) (nd : ((p0 :: p1 :: (a, g) :: R).map Prod.fst).Nodup)
    (kk : G E M (pc + 3) lv st (wL h (p0 :: p1 :: (a, u1 g f v) :: R)) k n P X) : G E M pc lv (.int v :: .ref a :: st) (wL h (p0 :: p1 :: (a, g) :: R)) k n P X := g_putI hr hd hf hfin hn hfit hci hk (g_h (wL_sI 2 rfl nd) kk)
theorem g_lia2 {p0 p1 : Nat × (Nat → Int32)} (hd : decode (mC M) pc = .ok (.iaload, 1)) (hk : hK h a = 20) (hl : hL h a = len) (hj : j < len) (hlen : len < 2 ^ 31) (nd : ((p0 :: p1 :: (a, g) :: R).map Prod.fst).Nodup)
    (kk : G E M (pc + 1) lv (.int (g j) :: st) (wL h (p0 :: p1 :: (a, g) :: R)) k n P X) : G E M pc lv (.int (nI j) :: .ref a :: st) (wL h (p0 :: p1 :: (a, g) :: R)) k n P X :=
  g_iaload hd hk (vp_in_nI (show j < hL h a by rw [hl]; exact hj) (show hL h a < 2 ^ 31 by rw [hl]; exact hlen)) (by rw [nI_clamp (Nat.lt_trans hj hlen), hI_wL, wLf_at 2 rfl nd]; exact kk)
theorem g_lba2 {p0 p1 : Nat × (Nat → Int32)} (hd : decode (mC M) pc = .ok (.baload, 1)) (hk : hK h a = 21) (hl : hL h a = len) (hj : j < len) (hlen : len < 2 ^ 31) (nd : ((p0 :: p1 :: (a, g) :: R).map Prod.fst).Nodup)
    (kk : G E M (pc + 1) lv (.int (g j) :: st) (wL h (p0 :: p1 :: (a, g) :: R)) k n P X) : G E M pc lv (.int (nI j) :: .ref a :: st) (wL h (p0 :: p1 :: (a, g) :: R)) k n P X :=
  g_baload hd hk (vp_in_nI (show j < hL h a by rw [hl]; exact hj) (show hL h a < 2 ^ 31 by rw [hl]; exact hlen)) (by rw [nI_clamp (Nat.lt_trans hj hlen), hI_wL, wLf_at 2 rfl nd]; exact kk)
theorem g_lza2 {p0 p1 : Nat × (Nat → Int32)} (hd : decode (mC M) pc = .ok (.baload, 1)) (hk : hK h a = 22) (hl : hL h a = len) (hj : j < len) (hlen : len < 2 ^ 31) (nd : ((p0 :: p1 :: (a, g) :: R).map Prod.fst).Nodup)
    (kk : G E M (pc + 1) lv (.int (g j) :: st) (wL h (p0 :: p1 :: (a, g) :: R)) k n P X) : G E M pc lv (.int (nI j) :: .ref a :: st) (wL h (p0 :: p1 :: (a, g) :: R)) k n P X :=
  g_zaload hd hk (vp_in_nI (show j < hL h a by rw [hl]; exact hj) (show hL h a < 2 ^ 31 by rw [hl]; exact hlen)) (by rw [nI_clamp (Nat.lt_trans hj hlen), hI_wL, wLf_at 2 rfl nd]; exact kk)
theorem g_lca2 {p0 p1 : Nat × (Nat → Int32)} (hd : decode (mC M) pc = .ok (.caload, 1)) (hk : hK h a = 23) (hl : hL h a = len) (hj : j < len) (hlen : len < 2 ^ 31) (nd : ((p0 :: p1 :: (a, g) :: R).map Prod.fst).Nodup)
    (kk : G E M (pc + 1) lv (.int (g j) :: st) (wL h (p0 :: p1 :: (a, g) :: R)) k n P X) : G E M pc lv (.int (nI j) :: .ref a :: st) (wL h (p0 :: p1 :: (a, g) :: R)) k n P X :=
  g_caload hd hk (vp_in_nI (show j < hL h a by rw [hl]; exact hj) (show hL h a < 2 ^ 31 by rw [hl]; exact hlen)) (by rw [nI_clamp (Nat.lt_trans hj hlen), hI_wL, wLf_at 2 rfl nd]; exact kk)
theorem g_lis2 {p0 p1 : Nat × (Nat → Int32)} (hd : decode (mC M) pc = .ok (.iastore, 1)) (hk : hK h a = 20) (hl : hL h a = len) (hj : j < len) (hlen : len < 2 ^ 31) (nd : ((p0 :: p1 :: (a, g) :: R).map Prod.fst).Nodup)
    (kk : G E M (pc + 1) lv st (wL h (p0 :: p1 :: (a, u1 g j v) :: R)) k n P X) : G E M pc lv (.int v :: .int (nI j) :: .ref a :: st) (wL h (p0 :: p1 :: (a, g) :: R)) k n P X :=
  g_iastore hd hk (vp_in_nI (show j < hL h a by rw [hl]; exact hj) (show hL h a < 2 ^ 31 by rw [hl]; exact hlen)) (by rw [nI_clamp (Nat.lt_trans hj hlen), wL_sI 2 rfl nd]; exact kk)
theorem g_lbs2 {p0 p1 : Nat × (Nat → Int32)} (hd : decode (mC M) pc = .ok (.bastore, 1)) (hk : hK h a = 21) (hl : hL h a = len) (hj : j < len) (hlen : len < 2 ^ 31) (nd : ((p0 :: p1 :: (a, g) :: R).map Prod.fst).Nodup)
    (kk : G E M (pc + 1) lv st (wL h (p0 :: p1 :: (a, u1 g j (vp_nar .byte v)) :: R)) k n P X) : G E M pc lv (.int v :: .int (nI j) :: .ref a :: st) (wL h (p0 :: p1 :: (a, g) :: R)) k n P X :=
  g_bastore hd hk (vp_in_nI (show j < hL h a by rw [hl]; exact hj) (show hL h a < 2 ^ 31 by rw [hl]; exact hlen)) (by rw [nI_clamp (Nat.lt_trans hj hlen), wL_sI 2 rfl nd]; exact kk)
theorem g_lzs2 {p0 p1 : Nat × (Nat → Int32)} (hd : decode (mC M) pc = .ok (.bastore, 1)) (hk : hK h a = 22) (hl : hL h a = len) (hj : j < len) (hlen : len < 2 ^ 31) (nd : ((p0 :: p1 :: (a, g) :: R).map Prod.fst).Nodup)
    (kk : G E M (pc + 1) lv st (wL h (p0 :: p1 :: (a, u1 g j (vp_nar .boolean v)) :: R)) k n P X) : G E M pc lv (.int v :: .int (nI j) :: .ref a :: st) (wL h (p0 :: p1 :: (a, g) :: R)) k n P X :=
  g_zastore hd hk (vp_in_nI (show j < hL h a by rw [hl]; exact hj) (show hL h a < 2 ^ 31 by rw [hl]; exact hlen)) (by rw [nI_clamp (Nat.lt_trans hj hlen), wL_sI 2 rfl nd]; exact kk)
theorem g_lcs2 {p0 p1 : Nat × (Nat → Int32)} (hd : decode (mC M) pc = .ok (.castore, 1)) (hk : hK h a = 23) (hl : hL h a = len) (hj : j < len) (hlen : len < 2 ^ 31) (nd : ((p0 :: p1 :: (a, g) :: R).map Prod.fst).Nodup)
    (kk : G E M (pc + 1) lv st (wL h (p0 :: p1 :: (a, u1 g j (vp_nar .char v)) :: R)) k n P X) : G E M pc lv (.int v :: .int (nI j) :: .ref a :: st) (wL h (p0 :: p1 :: (a, g) :: R)) k n P X :=
  g_castore hd hk (vp_in_nI (show j < hL h a by rw [hl]; exact hj) (show hL h a < 2 ^ 31 by rw [hl]; exact hlen)) (by rw [nI_clamp (Nat.lt_trans hj hlen), wL_sI 2 rfl nd]; exact kk)
theorem g_lgI3 {p0 p1 p2 : Nat × (Nat → Int32)} (hr : cRf ci f = false) (hd : decode (mC M) pc = .ok (.getfield idx, 3)) (hf : FLk (mY M).cls idx ci f) (hci : ci < 19) (hk : hK h a = ci + 1) (nd : ((p0 :: p1 :: p2 :: (a, g) :: R).map Prod.fst).Nodup)
    (kk : G E M (pc + 3) lv (.int (g f) :: st) (wL h (p0 :: p1 :: p2 :: (a, g) :: R)) k n P X) : G E M pc lv (.ref a :: st) (wL h (p0 :: p1 :: p2 :: (a, g) :: R)) k n P X := g_getIX (g f) hr hd hf hci hk (congrFun (wLf_at 3 rfl nd) f) kk
theorem g_lpI3 {p0 p1 p2 : Nat × (Nat → Int32)} (hr : cRf ci f = false) (hd : decode (mC M) pc = .ok (.putfield idx, 3)) (hf : FLk (mY M).cls idx ci f) (hfin : ∀ q, cls[ci]? = some q → (q.2.1 f).2.2.2 = false) (hn : narrow (cTy ci f) (.int v) = .int v) (hfit : fits (cTy ci f) (.int v) = true) (hci : ci < 19) (hk : hK h a = ci + 1) (nd : ((p0 :: p1 :: p2 :: (a, g) :: R).map Prod.fst).Nodup)
    (kk : G E M (pc + 3) lv st (wL h (p0 :: p1 :: p2 :: (a, u1 g f v) :: R)) k n P X) : G E M pc lv (.int v :: .ref a :: st) (wL h (p0 :: p1 :: p2 :: (a, g) :: R)) k n P X := g_putI hr hd hf hfin hn hfit hci hk (g_h (wL_sI 3 rfl nd) kk)
theorem g_lia3 {p0 p1 p2 : Nat × (Nat → Int32)} (hd : decode (mC M) pc = .ok (.iaload, 1)) (hk : hK h a = 20) (hl : hL h a = len) (hj : j < len) (hlen : len < 2 ^ 31) (nd : ((p0 :: p1 :: p2 :: (a, g) :: R).map Prod.fst).Nodup)
    (kk : G E M (pc + 1) lv (.int (g j) :: st) (wL h (p0 :: p1 :: p2 :: (a, g) :: R)) k n P X) : G E M pc lv (.int (nI j) :: .ref a :: st) (wL h (p0 :: p1 :: p2 :: (a, g) :: R)) k n P X :=
  g_iaload hd hk (vp_in_nI (show j < hL h a by rw [hl]; exact hj) (show hL h a < 2 ^ 31 by rw [hl]; exact hlen)) (by rw [nI_clamp (Nat.lt_trans hj hlen), hI_wL, wLf_at 3 rfl nd]; exact kk)
theorem g_lba3 {p0 p1 p2 : Nat × (Nat → Int32)} (hd : decode (mC M) pc = .ok (.baload, 1)) (hk : hK h a = 21) (hl : hL h a = len) (hj : j < len) (hlen : len < 2 ^ 31) (nd : ((p0 :: p1 :: p2 :: (a, g) :: R).map Prod.fst).Nodup)
    (kk : G E M (pc + 1) lv (.int (g j) :: st) (wL h (p0 :: p1 :: p2 :: (a, g) :: R)) k n P X) : G E M pc lv (.int (nI j) :: .ref a :: st) (wL h (p0 :: p1 :: p2 :: (a, g) :: R)) k n P X :=
  g_baload hd hk (vp_in_nI (show j < hL h a by rw [hl]; exact hj) (show hL h a < 2 ^ 31 by rw [hl]; exact hlen)) (by rw [nI_clamp (Nat.lt_trans hj hlen), hI_wL, wLf_at 3 rfl nd]; exact kk)
theorem g_lza3 {p0 p1 p2 : Nat × (Nat → Int32)} (hd : decode (mC M) pc = .ok (.baload, 1)) (hk : hK h a = 22) (hl : hL h a = len) (hj : j < len) (hlen : len < 2 ^ 31) (nd : ((p0 :: p1 :: p2 :: (a, g) :: R).map Prod.fst).Nodup)
    (kk : G E M (pc + 1) lv (.int (g j) :: st) (wL h (p0 :: p1 :: p2 :: (a, g) :: R)) k n P X) : G E M pc lv (.int (nI j) :: .ref a :: st) (wL h (p0 :: p1 :: p2 :: (a, g) :: R)) k n P X :=
  g_zaload hd hk (vp_in_nI (show j < hL h a by rw [hl]; exact hj) (show hL h a < 2 ^ 31 by rw [hl]; exact hlen)) (by rw [nI_clamp (Nat.lt_trans hj hlen), hI_wL, wLf_at 3 rfl nd]; exact kk)
theorem g_lca3 {p0 p1 p2 : Nat × (Nat → Int32)} (hd : decode (mC M) pc = .ok (.caload, 1)) (hk : hK h a = 23) (hl : hL h a = len) (hj : j < len) (hlen : len < 2 ^ 31) (nd : ((p0 :: p1 :: p2 :: (a, g) :: R).map Prod.fst).Nodup)
    (kk : G E M (pc + 1) lv (.int (g j) :: st) (wL h (p0 :: p1 :: p2 :: (a, g) :: R)) k n P X) : G E M pc lv (.int (nI j) :: .ref a :: st) (wL h (p0 :: p1 :: p2 :: (a, g) :: R)) k n P X :=
  g_caload hd hk (vp_in_nI (show j < hL h a by rw [hl]; exact hj) (show hL h a < 2 ^ 31 by rw [hl]; exact hlen)) (by rw [nI_clamp (Nat.lt_trans hj hlen), hI_wL, wLf_at 3 rfl nd]; exact kk)
theorem g_lis3 {p0 p1 p2 : Nat × (Nat → Int32)} (hd : decode (mC M) pc = .ok (.iastore, 1)) (hk : hK h a = 20) (hl : hL h a = len) (hj : j < len) (hlen : len < 2 ^ 31) (nd : ((p0 :: p1 :: p2 :: (a, g) :: R).map Prod.fst).Nodup)
    (kk : G E M (pc + 1) lv st (wL h (p0 :: p1 :: p2 :: (a, u1 g j v) :: R)) k n P X) : G E M pc lv (.int v :: .int (nI j) :: .ref a :: st) (wL h (p0 :: p1 :: p2 :: (a, g) :: R)) k n P X :=
  g_iastore hd hk (vp_in_nI (show j < hL h a by rw [hl]; exact hj) (show hL h a < 2 ^ 31 by rw [hl]; exact hlen)) (by rw [nI_clamp (Nat.lt_trans hj hlen), wL_sI 3 rfl nd]; exact kk)
theorem g_lbs3 {p0 p1 p2 : Nat × (Nat → Int32)} (hd : decode (mC M) pc = .ok (.bastore, 1)) (hk : hK h a = 21) (hl : hL h a = len) (hj : j < len) (hlen : len < 2 ^ 31) (nd : ((p0 :: p1 :: p2 :: (a, g) :: R).map Prod.fst).Nodup)
    (kk : G E M (pc + 1) lv st (wL h (p0 :: p1 :: p2 :: (a, u1 g j (vp_nar .byte v)) :: R)) k n P X) : G E M pc lv (.int v :: .int (nI j) :: .ref a :: st) (wL h (p0 :: p1 :: p2 :: (a, g) :: R)) k n P X :=
  g_bastore hd hk (vp_in_nI (show j < hL h a by rw [hl]; exact hj) (show hL h a < 2 ^ 31 by rw [hl]; exact hlen)) (by rw [nI_clamp (Nat.lt_trans hj hlen), wL_sI 3 rfl nd]; exact kk)
theorem g_lzs3 {p0 p1 p2 : Nat × (Nat → Int32)} (hd : decode (mC M) pc = .ok (.bastore, 1)) (hk : hK h a = 22) (hl : hL h a = len) (hj : j < len) (hlen : len < 2 ^ 31) (nd : ((p0 :: p1 :: p2 :: (a, g) :: R).map Prod.fst).Nodup)
    (kk : G E M (pc + 1) lv st (wL h (p0 :: p1 :: p2 :: (a, u1 g j (vp_nar .boolean v)) :: R)) k n P X) : G E M pc lv (.int v :: .int (nI j) :: .ref a :: st) (wL h (p0 :: p1 :: p2 :: (a, g) :: R)) k n P X :=
  g_zastore hd hk (vp_in_nI (show j < hL h a by rw [hl]; exact hj) (show hL h a < 2 ^ 31 by rw [hl]; exact hlen)) (by rw [nI_clamp (Nat.lt_trans hj hlen), wL_sI 3 rfl nd]; exact kk)
theorem g_lcs3 {p0 p1 p2 : Nat × (Nat → Int32)} (hd : decode (mC M) pc = .ok (.castore, 1)) (hk : hK h a = 23) (hl : hL h a = len) (hj : j < len) (hlen : len < 2 ^ 31) (nd : ((p0 :: p1 :: p2 :: (a, g) :: R).map Prod.fst).Nodup)
    (kk : G E M (pc + 1) lv st (wL h (p0 :: p1 :: p2 :: (a, u1 g j (vp_nar .char v)) :: R)) k n P X) : G E M pc lv (.int v :: .int (nI j) :: .ref a :: st) (wL h (p0 :: p1 :: p2 :: (a, g) :: R)) k n P X :=
  g_castore hd hk (vp_in_nI (show j < hL h a by rw [hl]; exact hj) (show hL h a < 2 ^ 31 by rw [hl]; exact hlen)) (by rw [nI_clamp (Nat.lt_trans hj hlen), wL_sI 3 rfl nd]; exact kk)
theorem g_lgI4 {p0 p1 p2 p3 : Nat × (Nat → Int32)} (hr : cRf ci f = false) (hd : decode (mC M) pc = .ok (.getfield idx, 3)) (hf : FLk (mY M).cls idx ci f) (hci : ci < 19) (hk : hK h a = ci + 1) (nd : ((p0 :: p1 :: p2 :: p3 :: (a, g) :: R).map Prod.fst).Nodup)
    (kk : G E M (pc + 3) lv (.int (g f) :: st) (wL h (p0 :: p1 :: p2 :: p3 :: (a, g) :: R)) k n P X) : G E M pc lv (.ref a :: st) (wL h (p0 :: p1 :: p2 :: p3 :: (a, g) :: R)) k n P X := g_getIX (g f) hr hd hf hci hk (congrFun (wLf_at 4 rfl nd) f) kk
theorem g_lpI4 {p0 p1 p2 p3 : Nat × (Nat → Int32)} (hr : cRf ci f = false) (hd : decode (mC M) pc = .ok (.putfield idx, 3)) (hf : FLk (mY M).cls idx ci f) (hfin : ∀ q, cls[ci]? = some q → (q.2.1 f).2.2.2 = false) (hn : narrow (cTy ci f) (.int v) = .int v) (hfit : fits (cTy ci f) (.int v) = true) (hci : ci < 19) (hk : hK h a = ci + 1) (nd : ((p0 :: p1 :: p2 :: p3 :: (a, g) :: R).map Prod.fst).Nodup)
    (kk : G E M (pc + 3) lv st (wL h (p0 :: p1 :: p2 :: p3 :: (a, u1 g f v) :: R)) k n P X) : G E M pc lv (.int v :: .ref a :: st) (wL h (p0 :: p1 :: p2 :: p3 :: (a, g) :: R)) k n P X := g_putI hr hd hf hfin hn hfit hci hk (g_h (wL_sI 4 rfl nd) kk)
theorem g_lia4 {p0 p1 p2 p3 : Nat × (Nat → Int32)} (hd : decode (mC M) pc = .ok (.iaload, 1)) (hk : hK h a = 20) (hl : hL h a = len) (hj : j < len) (hlen : len < 2 ^ 31) (nd : ((p0 :: p1 :: p2 :: p3 :: (a, g) :: R).map Prod.fst).Nodup)
    (kk : G E M (pc + 1) lv (.int (g j) :: st) (wL h (p0 :: p1 :: p2 :: p3 :: (a, g) :: R)) k n P X) : G E M pc lv (.int (nI j) :: .ref a :: st) (wL h (p0 :: p1 :: p2 :: p3 :: (a, g) :: R)) k n P X :=
  g_iaload hd hk (vp_in_nI (show j < hL h a by rw [hl]; exact hj) (show hL h a < 2 ^ 31 by rw [hl]; exact hlen)) (by rw [nI_clamp (Nat.lt_trans hj hlen), hI_wL, wLf_at 4 rfl nd]; exact kk)
theorem g_lba4 {p0 p1 p2 p3 : Nat × (Nat → Int32)} (hd : decode (mC M) pc = .ok (.baload, 1)) (hk : hK h a = 21) (hl : hL h a = len) (hj : j < len) (hlen : len < 2 ^ 31) (nd : ((p0 :: p1 :: p2 :: p3 :: (a, g) :: R).map Prod.fst).Nodup)
    (kk : G E M (pc + 1) lv (.int (g j) :: st) (wL h (p0 :: p1 :: p2 :: p3 :: (a, g) :: R)) k n P X) : G E M pc lv (.int (nI j) :: .ref a :: st) (wL h (p0 :: p1 :: p2 :: p3 :: (a, g) :: R)) k n P X :=
  g_baload hd hk (vp_in_nI (show j < hL h a by rw [hl]; exact hj) (show hL h a < 2 ^ 31 by rw [hl]; exact hlen)) (by rw [nI_clamp (Nat.lt_trans hj hlen), hI_wL, wLf_at 4 rfl nd]; exact kk)
theorem g_lza4 {p0 p1 p2 p3 : Nat × (Nat → Int32)} (hd : decode (mC M) pc = .ok (.baload, 1)) (hk : hK h a = 22) (hl : hL h a = len) (hj : j < len) (hlen : len < 2 ^ 31) (nd : ((p0 :: p1 :: p2 :: p3 :: (a, g) :: R).map Prod.fst).Nodup)
    (kk : G E M (pc + 1) lv (.int (g j) :: st) (wL h (p0 :: p1 :: p2 :: p3 :: (a, g) :: R)) k n P X) : G E M pc lv (.int (nI j) :: .ref a :: st) (wL h (p0 :: p1 :: p2 :: p3 :: (a, g) :: R)) k n P X :=
  g_zaload hd hk (vp_in_nI (show j < hL h a by rw [hl]; exact hj) (show hL h a < 2 ^ 31 by rw [hl]; exact hlen)) (by rw [nI_clamp (Nat.lt_trans hj hlen), hI_wL, wLf_at 4 rfl nd]; exact kk)
theorem g_lca4 {p0 p1 p2 p3 : Nat × (Nat → Int32)} (hd : decode (mC M) pc = .ok (.caload, 1)) (hk : hK h a = 23) (hl : hL h a = len) (hj : j < len) (hlen : len < 2 ^ 31) (nd : ((p0 :: p1 :: p2 :: p3 :: (a, g) :: R).map Prod.fst).Nodup)
    (kk : G E M (pc + 1) lv (.int (g j) :: st) (wL h (p0 :: p1 :: p2 :: p3 :: (a, g) :: R)) k n P X) : G E M pc lv (.int (nI j) :: .ref a :: st) (wL h (p0 :: p1 :: p2 :: p3 :: (a, g) :: R)) k n P X :=
  g_caload hd hk (vp_in_nI (show j < hL h a by rw [hl]; exact hj) (show hL h a < 2 ^ 31 by rw [hl]; exact hlen)) (by rw [nI_clamp (Nat.lt_trans hj hlen), hI_wL, wLf_at 4 rfl nd]; exact kk)
theorem g_lis4 {p0 p1 p2 p3 : Nat × (Nat → Int32)} (hd : decode (mC M) pc = .ok (.iastore, 1)) (hk : hK h a = 20) (hl : hL h a = len) (hj : j < len) (hlen : len < 2 ^ 31) (nd : ((p0 :: p1 :: p2 :: p3 :: (a, g) :: R).map Prod.fst).Nodup)
    (kk : G E M (pc + 1) lv st (wL h (p0 :: p1 :: p2 :: p3 :: (a, u1 g j v) :: R)) k n P X) : G E M pc lv (.int v :: .int (nI j) :: .ref a :: st) (wL h (p0 :: p1 :: p2 :: p3 :: (a, g) :: R)) k n P X :=
  g_iastore hd hk (vp_in_nI (show j < hL h a by rw [hl]; exact hj) (show hL h a < 2 ^ 31 by rw [hl]; exact hlen)) (by rw [nI_clamp (Nat.lt_trans hj hlen), wL_sI 4 rfl nd]; exact kk)
theorem g_lbs4 {p0 p1 p2 p3 : Nat × (Nat → Int32)} (hd : decode (mC M) pc = .ok (.bastore, 1)) (hk : hK h a = 21) (hl : hL h a = len) (hj : j < len) (hlen : len < 2 ^ 31) (nd : ((p0 :: p1 :: p2 :: p3 :: (a, g) :: R).map Prod.fst).Nodup)
    (kk : G E M (pc + 1) lv st (wL h (p0 :: p1 :: p2 :: p3 :: (a, u1 g j (vp_nar .byte v)) :: R)) k n P X) : G E M pc lv (.int v :: .int (nI j) :: .ref a :: st) (wL h (p0 :: p1 :: p2 :: p3 :: (a, g) :: R)) k n P X :=
  g_bastore hd hk (vp_in_nI (show j < hL h a by rw [hl]; exact hj) (show hL h a < 2 ^ 31 by rw [hl]; exact hlen)) (by rw [nI_clamp (Nat.lt_trans hj hlen), wL_sI 4 rfl nd]; exact kk)
theorem g_lzs4 {p0 p1 p2 p3 : Nat × (Nat → Int32)} (hd : decode (mC M) pc = .ok (.bastore, 1)) (hk : hK h a = 22) (hl : hL h a = len) (hj : j < len) (hlen : len < 2 ^ 31) (nd : ((p0 :: p1 :: p2 :: p3 :: (a, g) :: R).map Prod.fst).Nodup)
    (kk : G E M (pc + 1) lv st (wL h (p0 :: p1 :: p2 :: p3 :: (a, u1 g j (vp_nar .boolean v)) :: R)) k n P X) : G E M pc lv (.int v :: .int (nI j) :: .ref a :: st) (wL h (p0 :: p1 :: p2 :: p3 :: (a, g) :: R)) k n P X :=
  g_zastore hd hk (vp_in_nI (show j < hL h a by rw [hl]; exact hj) (show hL h a < 2 ^ 31 by rw [hl]; exact hlen)) (by rw [nI_clamp (Nat.lt_trans hj hlen), wL_sI 4 rfl nd]; exact kk)
theorem g_lcs4 {p0 p1 p2 p3 : Nat × (Nat → Int32)} (hd : decode (mC M) pc = .ok (.castore, 1)) (hk : hK h a = 23) (hl : hL h a = len) (hj : j < len) (hlen : len < 2 ^ 31) (nd : ((p0 :: p1 :: p2 :: p3 :: (a, g) :: R).map Prod.fst).Nodup)
    (kk : G E M (pc + 1) lv st (wL h (p0 :: p1 :: p2 :: p3 :: (a, u1 g j (vp_nar .char v)) :: R)) k n P X) : G E M pc lv (.int v :: .int (nI j) :: .ref a :: st) (wL h (p0 :: p1 :: p2 :: p3 :: (a, g) :: R)) k n P X :=
  g_castore hd hk (vp_in_nI (show j < hL h a by rw [hl]; exact hj) (show hL h a < 2 ^ 31 by rw [hl]; exact hlen)) (by rw [nI_clamp (Nat.lt_trans hj hlen), wL_sI 4 rfl nd]; exact kk)
theorem g_lgI5 {p0 p1 p2 p3 p4 : Nat × (Nat → Int32)} (hr : cRf ci f = false) (hd : decode (mC M) pc = .ok (.getfield idx, 3)) (hf : FLk (mY M).cls idx ci f) (hci : ci < 19) (hk : hK h a = ci + 1) (nd : ((p0 :: p1 :: p2 :: p3 :: p4 :: (a, g) :: R).map Prod.fst).Nodup)
    (kk : G E M (pc + 3) lv (.int (g f) :: st) (wL h (p0 :: p1 :: p2 :: p3 :: p4 :: (a, g) :: R)) k n P X) : G E M pc lv (.ref a :: st) (wL h (p0 :: p1 :: p2 :: p3 :: p4 :: (a, g) :: R)) k n P X := g_getIX (g f) hr hd hf hci hk (congrFun (wLf_at 5 rfl nd) f) kk
theorem g_lpI5 {p0 p1 p2 p3 p4 : Nat × (Nat → Int32)} (hr : cRf ci f = false) (hd : decode (mC M) pc = .ok (.putfield idx, 3)) (hf : FLk (mY M).cls idx ci f) (hfin : ∀ q, cls[ci]? = some q → (q.2.1 f).2.2.2 = false) (hn : narrow (cTy ci f) (.int v) = .int v) (hfit : fits (cTy ci f) (.int v) = true) (hci : ci < 19) (hk : hK h a = ci + 1) (nd : ((p0 :: p1 :: p2 :: p3 :: p4 :: (a, g) :: R).map Prod.fst).Nodup)
    (kk : G E M (pc + 3) lv st (wL h (p0 :: p1 :: p2 :: p3 :: p4 :: (a, u1 g f v) :: R)) k n P X) : G E M pc lv (.int v :: .ref a :: st) (wL h (p0 :: p1 :: p2 :: p3 :: p4 :: (a, g) :: R)) k n P X := g_putI hr hd hf hfin hn hfit hci hk (g_h (wL_sI 5 rfl nd) kk)
theorem g_lia5 {p0 p1 p2 p3 p4 : Nat × (Nat → Int32)} (hd : decode (mC M) pc = .ok (.iaload, 1)) (hk : hK h a = 20) (hl : hL h a = len) (hj : j < len) (hlen : len < 2 ^ 31) (nd : ((p0 :: p1 :: p2 :: p3 :: p4 :: (a, g) :: R).map Prod.fst).Nodup)
    (kk : G E M (pc + 1) lv (.int (g j) :: st) (wL h (p0 :: p1 :: p2 :: p3 :: p4 :: (a, g) :: R)) k n P X) : G E M pc lv (.int (nI j) :: .ref a :: st) (wL h (p0 :: p1 :: p2 :: p3 :: p4 :: (a, g) :: R)) k n P X :=
  g_iaload hd hk (vp_in_nI (show j < hL h a by rw [hl]; exact hj) (show hL h a < 2 ^ 31 by rw [hl]; exact hlen)) (by rw [nI_clamp (Nat.lt_trans hj hlen), hI_wL, wLf_at 5 rfl nd]; exact kk)
theorem g_lba5 {p0 p1 p2 p3 p4 : Nat × (Nat → Int32)} (hd : decode (mC M) pc = .ok (.baload, 1)) (hk : hK h a = 21) (hl : hL h a = len) (hj : j < len) (hlen : len < 2 ^ 31) (nd : ((p0 :: p1 :: p2 :: p3 :: p4 :: (a, g) :: R).map Prod.fst).Nodup)
    (kk : G E M (pc + 1) lv (.int (g j) :: st) (wL h (p0 :: p1 :: p2 :: p3 :: p4 :: (a, g) :: R)) k n P X) : G E M pc lv (.int (nI j) :: .ref a :: st) (wL h (p0 :: p1 :: p2 :: p3 :: p4 :: (a, g) :: R)) k n P X :=
  g_baload hd hk (vp_in_nI (show j < hL h a by rw [hl]; exact hj) (show hL h a < 2 ^ 31 by rw [hl]; exact hlen)) (by rw [nI_clamp (Nat.lt_trans hj hlen), hI_wL, wLf_at 5 rfl nd]; exact kk)
theorem g_lza5 {p0 p1 p2 p3 p4 : Nat × (Nat → Int32)} (hd : decode (mC M) pc = .ok (.baload, 1)) (hk : hK h a = 22) (hl : hL h a = len) (hj : j < len) (hlen : len < 2 ^ 31) (nd : ((p0 :: p1 :: p2 :: p3 :: p4 :: (a, g) :: R).map Prod.fst).Nodup)
    (kk : G E M (pc + 1) lv (.int (g j) :: st) (wL h (p0 :: p1 :: p2 :: p3 :: p4 :: (a, g) :: R)) k n P X) : G E M pc lv (.int (nI j) :: .ref a :: st) (wL h (p0 :: p1 :: p2 :: p3 :: p4 :: (a, g) :: R)) k n P X :=
  g_zaload hd hk (vp_in_nI (show j < hL h a by rw [hl]; exact hj) (show hL h a < 2 ^ 31 by rw [hl]; exact hlen)) (by rw [nI_clamp (Nat.lt_trans hj hlen), hI_wL, wLf_at 5 rfl nd]; exact kk)
theorem g_lca5 {p0 p1 p2 p3 p4 : Nat × (Nat → Int32)} (hd : decode (mC M) pc = .ok (.caload, 1)) (hk : hK h a = 23) (hl : hL h a = len) (hj : j < len) (hlen : len < 2 ^ 31) (nd : ((p0 :: p1 :: p2 :: p3 :: p4 :: (a, g) :: R).map Prod.fst).Nodup)
    (kk : G E M (pc + 1) lv (.int (g j) :: st) (wL h (p0 :: p1 :: p2 :: p3 :: p4 :: (a, g) :: R)) k n P X) : G E M pc lv (.int (nI j) :: .ref a :: st) (wL h (p0 :: p1 :: p2 :: p3 :: p4 :: (a, g) :: R)) k n P X :=
  g_caload hd hk (vp_in_nI (show j < hL h a by rw [hl]; exact hj) (show hL h a < 2 ^ 31 by rw [hl]; exact hlen)) (by rw [nI_clamp (Nat.lt_trans hj hlen), hI_wL, wLf_at 5 rfl nd]; exact kk)
theorem g_lis5 {p0 p1 p2 p3 p4 : Nat × (Nat → Int32)} (hd : decode (mC M) pc = .ok (.iastore, 1)) (hk : hK h a = 20) (hl : hL h a = len) (hj : j < len) (hlen : len < 2 ^ 31) (nd : ((p0 :: p1 :: p2 :: p3 :: p4 :: (a, g) :: R).map Prod.fst).Nodup)
    (kk : G E M (pc + 1) lv st (wL h (p0 :: p1 :: p2 :: p3 :: p4 :: (a, u1 g j v) :: R)) k n P X) : G E M pc lv (.int v :: .int (nI j) :: .ref a :: st) (wL h (p0 :: p1 :: p2 :: p3 :: p4 :: (a, g) :: R)) k n P X :=
  g_iastore hd hk (vp_in_nI (show j < hL h a by rw [hl]; exact hj) (show hL h a < 2 ^ 31 by rw [hl]; exact hlen)) (by rw [nI_clamp (Nat.lt_trans hj hlen), wL_sI 5 rfl nd]; exact kk)
theorem g_lbs5 {p0 p1 p2 p3 p4 : Nat × (Nat → Int32)} (hd : decode (mC M) pc = .ok (.bastore, 1)) (hk : hK h a = 21) (hl : hL h a = len) (hj : j < len) (hlen : len < 2 ^ 31) (nd : ((p0 :: p1 :: p2 :: p3 :: p4 :: (a, g) :: R).map Prod.fst).Nodup)
    (kk : G E M (pc + 1) lv st (wL h (p0 :: p1 :: p2 :: p3 :: p4 :: (a, u1 g j (vp_nar .byte v)) :: R)) k n P X) : G E M pc lv (.int v :: .int (nI j) :: .ref a :: st) (wL h (p0 :: p1 :: p2 :: p3 :: p4 :: (a, g) :: R)) k n P X :=
  g_bastore hd hk (vp_in_nI (show j < hL h a by rw [hl]; exact hj) (show hL h a < 2 ^ 31 by rw [hl]; exact hlen)) (by rw [nI_clamp (Nat.lt_trans hj hlen), wL_sI 5 rfl nd]; exact kk)
theorem g_lzs5 {p0 p1 p2 p3 p4 : Nat × (Nat → Int32)} (hd : decode (mC M) pc = .ok (.bastore, 1)) (hk : hK h a = 22) (hl : hL h a = len) (hj : j < len) (hlen : len < 2 ^ 31) (nd : ((p0 :: p1 :: p2 :: p3 :: p4 :: (a, g) :: R).map Prod.fst).Nodup)
    (kk : G E M (pc + 1) lv st (wL h (p0 :: p1 :: p2 :: p3 :: p4 :: (a, u1 g j (vp_nar .boolean v)) :: R)) k n P X) : G E M pc lv (.int v :: .int (nI j) :: .ref a :: st) (wL h (p0 :: p1 :: p2 :: p3 :: p4 :: (a, g) :: R)) k n P X :=
  g_zastore hd hk (vp_in_nI (show j < hL h a by rw [hl]; exact hj) (show hL h a < 2 ^ 31 by rw [hl]; exact hlen)) (by rw [nI_clamp (Nat.lt_trans hj hlen), wL_sI 5 rfl nd]; exact kk)
theorem g_lcs5 {p0 p1 p2 p3 p4 : Nat × (Nat → Int32)} (hd : decode (mC M) pc = .ok (.castore, 1)) (hk : hK h a = 23) (hl : hL h a = len) (hj : j < len) (hlen : len < 2 ^ 31) (nd : ((p0 :: p1 :: p2 :: p3 :: p4 :: (a, g) :: R).map Prod.fst).Nodup)
    (kk : G E M (pc + 1) lv st (wL h (p0 :: p1 :: p2 :: p3 :: p4 :: (a, u1 g j (vp_nar .char v)) :: R)) k n P X) : G E M pc lv (.int v :: .int (nI j) :: .ref a :: st) (wL h (p0 :: p1 :: p2 :: p3 :: p4 :: (a, g) :: R)) k n P X :=
  g_castore hd hk (vp_in_nI (show j < hL h a by rw [hl]; exact hj) (show hL h a < 2 ^ 31 by rw [hl]; exact hlen)) (by rw [nI_clamp (Nat.lt_trans hj hlen), wL_sI 5 rfl nd]; exact kk)
theorem g_lgI6 {p0 p1 p2 p3 p4 p5 : Nat × (Nat → Int32)} (hr : cRf ci f = false) (hd : decode (mC M) pc = .ok (.getfield idx, 3)) (hf : FLk (mY M).cls idx ci f) (hci : ci < 19) (hk : hK h a = ci + 1) (nd : ((p0 :: p1 :: p2 :: p3 :: p4 :: p5 :: (a, g) :: R).map Prod.fst).Nodup)
    (kk : G E M (pc + 3) lv (.int (g f) :: st) (wL h (p0 :: p1 :: p2 :: p3 :: p4 :: p5 :: (a, g) :: R)) k n P X) : G E M pc lv (.ref a :: st) (wL h (p0 :: p1 :: p2 :: p3 :: p4 :: p5 :: (a, g) :: R)) k n P X := g_getIX (g f) hr hd hf hci hk (congrFun (wLf_at 6 rfl nd) f) kk
theorem g_lpI6 {p0 p1 p2 p3 p4 p5 : Nat × (Nat → Int32)} (hr : cRf ci f = false) (hd : decode (mC M) pc = .ok (.putfield idx, 3)) (hf : FLk (mY M).cls idx ci f) (hfin : ∀ q, cls[ci]? = some q → (q.2.1 f).2.2.2 = false) (hn : narrow (cTy ci f) (.int v) = .int v) (hfit : fits (cTy ci f) (.int v) = true) (hci : ci < 19) (hk : hK h a = ci + 1) (nd : ((p0 :: p1 :: p2 :: p3 :: p4 :: p5 :: (a, g) :: R).map Prod.fst).Nodup)
    (kk : G E M (pc + 3) lv st (wL h (p0 :: p1 :: p2 :: p3 :: p4 :: p5 :: (a, u1 g f v) :: R)) k n P X) : G E M pc lv (.int v :: .ref a :: st) (wL h (p0 :: p1 :: p2 :: p3 :: p4 :: p5 :: (a, g) :: R)) k n P X := g_putI hr hd hf hfin hn hfit hci hk (g_h (wL_sI 6 rfl nd) kk)
theorem g_lia6 {p0 p1 p2 p3 p4 p5 : Nat × (Nat → Int32)} (hd : decode (mC M) pc = .ok (.iaload, 1)) (hk : hK h a = 20) (hl : hL h a = len) (hj : j < len) (hlen : len < 2 ^ 31) (nd : ((p0 :: p1 :: p2 :: p3 :: p4 :: p5 :: (a, g) :: R).map Prod.fst).Nodup)
    (kk : G E M (pc + 1) lv (.int (g j) :: st) (wL h (p0 :: p1 :: p2 :: p3 :: p4 :: p5 :: (a, g) :: R)) k n P X) : G E M pc lv (.int (nI j) :: .ref a :: st) (wL h (p0 :: p1 :: p2 :: p3 :: p4 :: p5 :: (a, g) :: R)) k n P X :=
  g_iaload hd hk (vp_in_nI (show j < hL h a by rw [hl]; exact hj) (show hL h a < 2 ^ 31 by rw [hl]; exact hlen)) (by rw [nI_clamp (Nat.lt_trans hj hlen), hI_wL, wLf_at 6 rfl nd]; exact kk)
theorem g_lba6 {p0 p1 p2 p3 p4 p5 : Nat × (Nat → Int32)} (hd : decode (mC M) pc = .ok (.baload, 1)) (hk : hK h a = 21) (hl : hL h a = len) (hj : j < len) (hlen : len < 2 ^ 31) (nd : ((p0 :: p1 :: p2 :: p3 :: p4 :: p5 :: (a, g) :: R).map Prod.fst).Nodup)
    (kk : G E M (pc + 1) lv (.int (g j) :: st) (wL h (p0 :: p1 :: p2 :: p3 :: p4 :: p5 :: (a, g) :: R)) k n P X) : G E M pc lv (.int (nI j) :: .ref a :: st) (wL h (p0 :: p1 :: p2 :: p3 :: p4 :: p5 :: (a, g) :: R)) k n P X :=
  g_baload hd hk (vp_in_nI (show j < hL h a by rw [hl]; exact hj) (show hL h a < 2 ^ 31 by rw [hl]; exact hlen)) (by rw [nI_clamp (Nat.lt_trans hj hlen), hI_wL, wLf_at 6 rfl nd]; exact kk)
theorem g_lza6 {p0 p1 p2 p3 p4 p5 : Nat × (Nat → Int32)} (hd : decode (mC M) pc = .ok (.baload, 1)) (hk : hK h a = 22) (hl : hL h a = len) (hj : j < len) (hlen : len < 2 ^ 31) (nd : ((p0 :: p1 :: p2 :: p3 :: p4 :: p5 :: (a, g) :: R).map Prod.fst).Nodup)
    (kk : G E M (pc + 1) lv (.int (g j) :: st) (wL h (p0 :: p1 :: p2 :: p3 :: p4 :: p5 :: (a, g) :: R)) k n P X) : G E M pc lv (.int (nI j) :: .ref a :: st) (wL h (p0 :: p1 :: p2 :: p3 :: p4 :: p5 :: (a, g) :: R)) k n P X :=
  g_zaload hd hk (vp_in_nI (show j < hL h a by rw [hl]; exact hj) (show hL h a < 2 ^ 31 by rw [hl]; exact hlen)) (by rw [nI_clamp (Nat.lt_trans hj hlen), hI_wL, wLf_at 6 rfl nd]; exact kk)
theorem g_lca6 {p0 p1 p2 p3 p4 p5 : Nat × (Nat → Int32)} (hd : decode (mC M) pc = .ok (.caload, 1)) (hk : hK h a = 23) (hl : hL h a = len) (hj : j < len) (hlen : len < 2 ^ 31) (nd : ((p0 :: p1 :: p2 :: p3 :: p4 :: p5 :: (a, g) :: R).map Prod.fst).Nodup)
    (kk : G E M (pc + 1) lv (.int (g j) :: st) (wL h (p0 :: p1 :: p2 :: p3 :: p4 :: p5 :: (a, g) :: R)) k n P X) : G E M pc lv (.int (nI j) :: .ref a :: st) (wL h (p0 :: p1 :: p2 :: p3 :: p4 :: p5 :: (a, g) :: R)) k n P X :=
  g_caload hd hk (vp_in_nI (show j < hL h a by rw [hl]; exact hj) (show hL h a < 2 ^ 31 by rw [hl]; exact hlen)) (by rw [nI_clamp (Nat.lt_trans hj hlen), hI_wL, wLf_at 6 rfl nd]; exact kk)
theorem g_lis6 {p0 p1 p2 p3 p4 p5 : Nat × (Nat → Int32)} (hd : decode (mC M) pc = .ok (.iastore, 1)) (hk : hK h a = 20) (hl : hL h a = len) (hj : j < len) (hlen : len < 2 ^ 31) (nd : ((p0 :: p1 :: p2 :: p3 :: p4 :: p5 :: (a, g) :: R).map Prod.fst).Nodup)
    (kk : G E M (pc + 1) lv st (wL h (p0 :: p1 :: p2 :: p3 :: p4 :: p5 :: (a, u1 g j v) :: R)) k n P X) : G E M pc lv (.int v :: .int (nI j) :: .ref a :: st) (wL h (p0 :: p1 :: p2 :: p3 :: p4 :: p5 :: (a, g) :: R)) k n P X :=
  g_iastore hd hk (vp_in_nI (show j < hL h a by rw [hl]; exact hj) (show hL h a < 2 ^ 31 by rw [hl]; exact hlen)) (by rw [nI_clamp (Nat.lt_trans hj hlen), wL_sI 6 rfl nd]; exact kk)
theorem g_lbs6 {p0 p1 p2 p3 p4 p5 : Nat × (Nat → Int32)} (hd : decode (mC M) pc = .ok (.bastore, 1)) (hk : hK h a = 21) (hl : hL h a = len) (hj : j < len) (hlen : len < 2 ^ 31) (nd : ((p0 :: p1 :: p2 :: p3 :: p4 :: p5 :: (a, g) :: R).map Prod.fst).Nodup)
    (kk : G E M (pc + 1) lv st (wL h (p0 :: p1 :: p2 :: p3 :: p4 :: p5 :: (a, u1 g j (vp_nar .byte v)) :: R)) k n P X) : G E M pc lv (.int v :: .int (nI j) :: .ref a :: st) (wL h (p0 :: p1 :: p2 :: p3 :: p4 :: p5 :: (a, g) :: R)) k n P X :=
  g_bastore hd hk (vp_in_nI (show j < hL h a by rw [hl]; exact hj) (show hL h a < 2 ^ 31 by rw [hl]; exact hlen)) (by rw [nI_clamp (Nat.lt_trans hj hlen), wL_sI 6 rfl nd]; exact kk)
theorem g_lzs6 {p0 p1 p2 p3 p4 p5 : Nat × (Nat → Int32)} (hd : decode (mC M) pc = .ok (.bastore, 1)) (hk : hK h a = 22) (hl : hL h a = len) (hj : j < len) (hlen : len < 2 ^ 31) (nd : ((p0 :: p1 :: p2 :: p3 :: p4 :: p5 :: (a, g) :: R).map Prod.fst).Nodup)
    (kk : G E M (pc + 1) lv st (wL h (p0 :: p1 :: p2 :: p3 :: p4 :: p5 :: (a, u1 g j (vp_nar .boolean v)) :: R)) k n P X) : G E M pc lv (.int v :: .int (nI j) :: .ref a :: st) (wL h (p0 :: p1 :: p2 :: p3 :: p4 :: p5 :: (a, g) :: R)) k n P X :=
  g_zastore hd hk (vp_in_nI (show j < hL h a by rw [hl]; exact hj) (show hL h a < 2 ^ 31 by rw [hl]; exact hlen)) (by rw [nI_clamp (Nat.lt_trans hj hlen), wL_sI 6 rfl nd]; exact kk)
theorem g_lcs6 {p0 p1 p2 p3 p4 p5 : Nat × (Nat → Int32)} (hd : decode (mC M) pc = .ok (.castore, 1)) (hk : hK h a = 23) (hl : hL h a = len) (hj : j < len) (hlen : len < 2 ^ 31) (nd : ((p0 :: p1 :: p2 :: p3 :: p4 :: p5 :: (a, g) :: R).map Prod.fst).Nodup)
    (kk : G E M (pc + 1) lv st (wL h (p0 :: p1 :: p2 :: p3 :: p4 :: p5 :: (a, u1 g j (vp_nar .char v)) :: R)) k n P X) : G E M pc lv (.int v :: .int (nI j) :: .ref a :: st) (wL h (p0 :: p1 :: p2 :: p3 :: p4 :: p5 :: (a, g) :: R)) k n P X :=
  g_castore hd hk (vp_in_nI (show j < hL h a by rw [hl]; exact hj) (show hL h a < 2 ^ 31 by rw [hl]; exact hlen)) (by rw [nI_clamp (Nat.lt_trans hj hlen), wL_sI 6 rfl nd]; exact kk)
theorem g_lgI7 {p0 p1 p2 p3 p4 p5 p6 : Nat × (Nat → Int32)} (hr : cRf ci f = false) (hd : decode (mC M) pc = .ok (.getfield idx, 3)) (hf : FLk (mY M).cls idx ci f) (hci : ci < 19) (hk : hK h a = ci + 1) (nd : ((p0 :: p1 :: p2 :: p3 :: p4 :: p5 :: p6 :: (a, g) :: R).map Prod.fst).Nodup)
    (kk : G E M (pc + 3) lv (.int (g f) :: st) (wL h (p0 :: p1 :: p2 :: p3 :: p4 :: p5 :: p6 :: (a, g) :: R)) k n P X) : G E M pc lv (.ref a :: st) (wL h (p0 :: p1 :: p2 :: p3 :: p4 :: p5 :: p6 :: (a, g) :: R)) k n P X := g_getIX (g f) hr hd hf hci hk (congrFun (wLf_at 7 rfl nd) f) kk
theorem g_lpI7 {p0 p1 p2 p3 p4 p5 p6 : Nat × (Nat → Int32)} (hr : cRf ci f = false) (hd : decode (mC M) pc = .ok (.putfield idx, 3)) (hf : FLk (mY M).cls idx ci f) (hfin : ∀ q, cls[ci]? = some q → (q.2.1 f).2.2.2 = false) (hn : narrow (cTy ci f) (.int v) = .int v) (hfit : fits (cTy ci f) (.int v) = true) (hci : ci < 19) (hk : hK h a = ci + 1) (nd : ((p0 :: p1 :: p2 :: p3 :: p4 :: p5 :: p6 :: (a, g) :: R).map Prod.fst).Nodup)
    (kk : G E M (pc + 3) lv st (wL h (p0 :: p1 :: p2 :: p3 :: p4 :: p5 :: p6 :: (a, u1 g f v) :: R)) k n P X) : G E M pc lv (.int v :: .ref a :: st) (wL h (p0 :: p1 :: p2 :: p3 :: p4 :: p5 :: p6 :: (a, g) :: R)) k n P X := g_putI hr hd hf hfin hn hfit hci hk (g_h (wL_sI 7 rfl nd) kk)
theorem g_lia7 {p0 p1 p2 p3 p4 p5 p6 : Nat × (Nat → Int32)} (hd : decode (mC M) pc = .ok (.iaload, 1)) (hk : hK h a = 20) (hl : hL h a = len) (hj : j < len) (hlen : len < 2 ^ 31) (nd : ((p0 :: p1 :: p2 :: p3 :: p4 :: p5 :: p6 :: (a, g) :: R).map Prod.fst).Nodup)
    (kk : G E M (pc + 1) lv (.int (g j) :: st) (wL h (p0 :: p1 :: p2 :: p3 :: p4 :: p5 :: p6 :: (a, g) :: R)) k n P X) : G E M pc lv (.int (nI j) :: .ref a :: st) (wL h (p0 :: p1 :: p2 :: p3 :: p4 :: p5 :: p6 :: (a, g) :: R)) k n P X :=
  g_iaload hd hk (vp_in_nI (show j < hL h a by rw [hl]; exact hj) (show hL h a < 2 ^ 31 by rw [hl]; exact hlen)) (by rw [nI_clamp (Nat.lt_trans hj hlen), hI_wL, wLf_at 7 rfl nd]; exact kk)
theorem g_lba7 {p0 p1 p2 p3 p4 p5 p6 : Nat × (Nat → Int32)} (hd : decode (mC M) pc = .ok (.baload, 1)) (hk : hK h a = 21) (hl : hL h a = len) (hj : j < len) (hlen : len < 2 ^ 31) (nd : ((p0 :: p1 :: p2 :: p3 :: p4 :: p5 :: p6 :: (a, g) :: R).map Prod.fst).Nodup)
    (kk : G E M (pc + 1) lv (.int (g j) :: st) (wL h (p0 :: p1 :: p2 :: p3 :: p4 :: p5 :: p6 :: (a, g) :: R)) k n P X) : G E M pc lv (.int (nI j) :: .ref a :: st) (wL h (p0 :: p1 :: p2 :: p3 :: p4 :: p5 :: p6 :: (a, g) :: R)) k n P X :=
  g_baload hd hk (vp_in_nI (show j < hL h a by rw [hl]; exact hj) (show hL h a < 2 ^ 31 by rw [hl]; exact hlen)) (by rw [nI_clamp (Nat.lt_trans hj hlen), hI_wL, wLf_at 7 rfl nd]; exact kk)
theorem g_lza7 {p0 p1 p2 p3 p4 p5 p6 : Nat × (Nat → Int32)} (hd : decode (mC M) pc = .ok (.baload, 1)) (hk : hK h a = 22) (hl : hL h a = len) (hj : j < len) (hlen : len < 2 ^ 31) (nd : ((p0 :: p1 :: p2 :: p3 :: p4 :: p5 :: p6 :: (a, g) :: R).map Prod.fst).Nodup)
    (kk : G E M (pc + 1) lv (.int (g j) :: st) (wL h (p0 :: p1 :: p2 :: p3 :: p4 :: p5 :: p6 :: (a, g) :: R)) k n P X) : G E M pc lv (.int (nI j) :: .ref a :: st) (wL h (p0 :: p1 :: p2 :: p3 :: p4 :: p5 :: p6 :: (a, g) :: R)) k n P X :=
  g_zaload hd hk (vp_in_nI (show j < hL h a by rw [hl]; exact hj) (show hL h a < 2 ^ 31 by rw [hl]; exact hlen)) (by rw [nI_clamp (Nat.lt_trans hj hlen), hI_wL, wLf_at 7 rfl nd]; exact kk)
theorem g_lca7 {p0 p1 p2 p3 p4 p5 p6 : Nat × (Nat → Int32)} (hd : decode (mC M) pc = .ok (.caload, 1)) (hk : hK h a = 23) (hl : hL h a = len) (hj : j < len) (hlen : len < 2 ^ 31) (nd : ((p0 :: p1 :: p2 :: p3 :: p4 :: p5 :: p6 :: (a, g) :: R).map Prod.fst).Nodup)
    (kk : G E M (pc + 1) lv (.int (g j) :: st) (wL h (p0 :: p1 :: p2 :: p3 :: p4 :: p5 :: p6 :: (a, g) :: R)) k n P X) : G E M pc lv (.int (nI j) :: .ref a :: st) (wL h (p0 :: p1 :: p2 :: p3 :: p4 :: p5 :: p6 :: (a, g) :: R)) k n P X :=
  g_caload hd hk (vp_in_nI (show j < hL h a by rw [hl]; exact hj) (show hL h a < 2 ^ 31 by rw [hl]; exact hlen)) (by rw [nI_clamp (Nat.lt_trans hj hlen), hI_wL, wLf_at 7 rfl nd]; exact kk)
theorem g_lis7 {p0 p1 p2 p3 p4 p5 p6 : Nat × (Nat → Int32)} (hd : decode (mC M) pc = .ok (.iastore, 1)) (hk : hK h a = 20) (hl : hL h a = len) (hj : j < len) (hlen : len < 2 ^ 31) (nd : ((p0 :: p1 :: p2 :: p3 :: p4 :: p5 :: p6 :: (a, g) :: R).map Prod.fst).Nodup)
    (kk : G E M (pc + 1) lv st (wL h (p0 :: p1 :: p2 :: p3 :: p4 :: p5 :: p6 :: (a, u1 g j v) :: R)) k n P X) : G E M pc lv (.int v :: .int (nI j) :: .ref a :: st) (wL h (p0 :: p1 :: p2 :: p3 :: p4 :: p5 :: p6 :: (a, g) :: R)) k n P X :=
  g_iastore hd hk (vp_in_nI (show j < hL h a by rw [hl]; exact hj) (show hL h a < 2 ^ 31 by rw [hl]; exact hlen)) (by rw [nI_clamp (Nat.lt_trans hj hlen), wL_sI 7 rfl nd]; exact kk)
theorem g_lbs7 {p0 p1 p2 p3 p4 p5 p6 : Nat × (Nat → Int32)} (hd : decode (mC M) pc = .ok (.bastore, 1)) (hk : hK h a = 21) (hl : hL h a = len) (hj : j < len) (hlen : len < 2 ^ 31) (nd : ((p0 :: p1 :: p2 :: p3 :: p4 :: p5 :: p6 :: (a, g) :: R).map Prod.fst).Nodup)
    (kk : G E M (pc + 1) lv st (wL h (p0 :: p1 :: p2 :: p3 :: p4 :: p5 :: p6 :: (a, u1 g j (vp_nar .byte v)) :: R)) k n P X) : G E M pc lv (.int v :: .int (nI j) :: .ref a :: st) (wL h (p0 :: p1 :: p2 :: p3 :: p4 :: p5 :: p6 :: (a, g) :: R)) k n P X :=
  g_bastore hd hk (vp_in_nI (show j < hL h a by rw [hl]; exact hj) (show hL h a < 2 ^ 31 by rw [hl]; exact hlen)) (by rw [nI_clamp (Nat.lt_trans hj hlen), wL_sI 7 rfl nd]; exact kk)
theorem g_lzs7 {p0 p1 p2 p3 p4 p5 p6 : Nat × (Nat → Int32)} (hd : decode (mC M) pc = .ok (.bastore, 1)) (hk : hK h a = 22) (hl : hL h a = len) (hj : j < len) (hlen : len < 2 ^ 31) (nd : ((p0 :: p1 :: p2 :: p3 :: p4 :: p5 :: p6 :: (a, g) :: R).map Prod.fst).Nodup)
    (kk : G E M (pc + 1) lv st (wL h (p0 :: p1 :: p2 :: p3 :: p4 :: p5 :: p6 :: (a, u1 g j (vp_nar .boolean v)) :: R)) k n P X) : G E M pc lv (.int v :: .int (nI j) :: .ref a :: st) (wL h (p0 :: p1 :: p2 :: p3 :: p4 :: p5 :: p6 :: (a, g) :: R)) k n P X :=
  g_zastore hd hk (vp_in_nI (show j < hL h a by rw [hl]; exact hj) (show hL h a < 2 ^ 31 by rw [hl]; exact hlen)) (by rw [nI_clamp (Nat.lt_trans hj hlen), wL_sI 7 rfl nd]; exact kk)
theorem g_lcs7 {p0 p1 p2 p3 p4 p5 p6 : Nat × (Nat → Int32)} (hd : decode (mC M) pc = .ok (.castore, 1)) (hk : hK h a = 23) (hl : hL h a = len) (hj : j < len) (hlen : len < 2 ^ 31) (nd : ((p0 :: p1 :: p2 :: p3 :: p4 :: p5 :: p6 :: (a, g) :: R).map Prod.fst).Nodup)
    (kk : G E M (pc + 1) lv st (wL h (p0 :: p1 :: p2 :: p3 :: p4 :: p5 :: p6 :: (a, u1 g j (vp_nar .char v)) :: R)) k n P X) : G E M pc lv (.int v :: .int (nI j) :: .ref a :: st) (wL h (p0 :: p1 :: p2 :: p3 :: p4 :: p5 :: p6 :: (a, g) :: R)) k n P X :=
  g_castore hd hk (vp_in_nI (show j < hL h a by rw [hl]; exact hj) (show hL h a < 2 ^ 31 by rw [hl]; exact hlen)) (by rw [nI_clamp (Nat.lt_trans hj hlen), wL_sI 7 rfl nd]; exact kk)
theorem g_lgI8 {p0 p1 p2 p3 p4 p5 p6 p7 : Nat × (Nat → Int32)} (hr : cRf ci f = false) (hd : decode (mC M) pc = .ok (.getfield idx, 3)) (hf : FLk (mY M).cls idx ci f) (hci : ci < 19) (hk : hK h a = ci + 1) (nd : ((p0 :: p1 :: p2 :: p3 :: p4 :: p5 :: p6 :: p7 :: (a, g) :: R).map Prod.fst).Nodup)
    (kk : G E M (pc + 3) lv (.int (g f) :: st) (wL h (p0 :: p1 :: p2 :: p3 :: p4 :: p5 :: p6 :: p7 :: (a, g) :: R)) k n P X) : G E M pc lv (.ref a :: st) (wL h (p0 :: p1 :: p2 :: p3 :: p4 :: p5 :: p6 :: p7 :: (a, g) :: R)) k n P X := g_getIX (g f) hr hd hf hci hk (congrFun (wLf_at 8 rfl nd) f) kk
theorem g_lpI8 {p0 p1 p2 p3 p4 p5 p6 p7 : Nat × (Nat → Int32)} (hr : cRf ci f = false) (hd : decode (mC M) pc = .ok (.putfield idx, 3)) (hf : FLk (mY M).cls idx ci f) (hfin : ∀ q, cls[ci]? = some q → (q.2.1 f).2.2.2 = false) (hn : narrow (cTy ci f) (.int v) = .int v) (hfit : fits (cTy ci f) (.int v) = true) (hci : ci < 19) (hk : hK h a = ci + 1) (nd : ((p0 :: p1 :: p2 :: p3 :: p4 :: p5 :: p6 :: p7 :: (a, g) :: R).map Prod.fst).Nodup)
    (kk : G E M (pc + 3) lv st (wL h (p0 :: p1 :: p2 :: p3 :: p4 :: p5 :: p6 :: p7 :: (a, u1 g f v) :: R)) k n P X) : G E M pc lv (.int v :: .ref a :: st) (wL h (p0 :: p1 :: p2 :: p3 :: p4 :: p5 :: p6 :: p7 :: (a, g) :: R)) k n P X := g_putI hr hd hf hfin hn hfit hci hk (g_h (wL_sI 8 rfl nd) kk)
theorem g_lia8 {p0 p1 p2 p3 p4 p5 p6 p7 : Nat × (Nat → Int32)} (hd : decode (mC M) pc = .ok (.iaload, 1)) (hk : hK h a = 20) (hl : hL h a = len) (hj : j < len) (hlen : len < 2 ^ 31) (nd : ((p0 :: p1 :: p2 :: p3 :: p4 :: p5 :: p6 :: p7 :: (a, g) :: R).map Prod.fst).Nodup)
    (kk : G E M (pc + 1) lv (.int (g j) :: st) (wL h (p0 :: p1 :: p2 :: p3 :: p4 :: p5 :: p6 :: p7 :: (a, g) :: R)) k n P X) : G E M pc lv (.int (nI j) :: .ref a :: st) (wL h (p0 :: p1 :: p2 :: p3 :: p4 :: p5 :: p6 :: p7 :: (a, g) :: R)) k n P X :=
  g_iaload hd hk (vp_in_nI (show j < hL h a by rw [hl]; exact hj) (show hL h a < 2 ^ 31 by rw [hl]; exact hlen)) (by rw [nI_clamp (Nat.lt_trans hj hlen), hI_wL, wLf_at 8 rfl nd]; exact kk)
theorem g_lba8 {p0 p1 p2 p3 p4 p5 p6 p7 : Nat × (Nat → Int32)} (hd : decode (mC M) pc = .ok (.baload, 1)) (hk : hK h a = 21) (hl : hL h a = len) (hj : j < len) (hlen : len < 2 ^ 31) (nd : ((p0 :: p1 :: p2 :: p3 :: p4 :: p5 :: p6 :: p7 :: (a, g) :: R).map Prod.fst).Nodup)
    (kk : G E M (pc + 1) lv (.int (g j) :: st) (wL h (p0 :: p1 :: p2 :: p3 :: p4 :: p5 :: p6 :: p7 :: (a, g) :: R)) k n P X) : G E M pc lv (.int (nI j) :: .ref a :: st) (wL h (p0 :: p1 :: p2 :: p3 :: p4 :: p5 :: p6 :: p7 :: (a, g) :: R)) k n P X :=
  g_baload hd hk (vp_in_nI (show j < hL h a by rw [hl]; exact hj) (show hL h a < 2 ^ 31 by rw [hl]; exact hlen)) (by rw [nI_clamp (Nat.lt_trans hj hlen), hI_wL, wLf_at 8 rfl nd]; exact kk)
theorem g_lza8 {p0 p1 p2 p3 p4 p5 p6 p7 : Nat × (Nat → Int32)} (hd : decode (mC M) pc = .ok (.baload, 1)) (hk : hK h a = 22) (hl : hL h a = len) (hj : j < len) (hlen : len < 2 ^ 31) (nd : ((p0 :: p1 :: p2 :: p3 :: p4 :: p5 :: p6 :: p7 :: (a, g) :: R).map Prod.fst).Nodup)
    (kk : G E M (pc + 1) lv (.int (g j) :: st) (wL h (p0 :: p1 :: p2 :: p3 :: p4 :: p5 :: p6 :: p7 :: (a, g) :: R)) k n P X) : G E M pc lv (.int (nI j) :: .ref a :: st) (wL h (p0 :: p1 :: p2 :: p3 :: p4 :: p5 :: p6 :: p7 :: (a, g) :: R)) k n P X :=
  g_zaload hd hk (vp_in_nI (show j < hL h a by rw [hl]; exact hj) (show hL h a < 2 ^ 31 by rw [hl]; exact hlen)) (by rw [nI_clamp (Nat.lt_trans hj hlen), hI_wL, wLf_at 8 rfl nd]; exact kk)
theorem g_lca8 {p0 p1 p2 p3 p4 p5 p6 p7 : Nat × (Nat → Int32)} (hd : decode (mC M) pc = .ok (.caload, 1)) (hk : hK h a = 23) (hl : hL h a = len) (hj : j < len) (hlen : len < 2 ^ 31) (nd : ((p0 :: p1 :: p2 :: p3 :: p4 :: p5 :: p6 :: p7 :: (a, g) :: R).map Prod.fst).Nodup)
    (kk : G E M (pc + 1) lv (.int (g j) :: st) (wL h (p0 :: p1 :: p2 :: p3 :: p4 :: p5 :: p6 :: p7 :: (a, g) :: R)) k n P X) : G E M pc lv (.int (nI j) :: .ref a :: st) (wL h (p0 :: p1 :: p2 :: p3 :: p4 :: p5 :: p6 :: p7 :: (a, g) :: R)) k n P X :=
  g_caload hd hk (vp_in_nI (show j < hL h a by rw [hl]; exact hj) (show hL h a < 2 ^ 31 by rw [hl]; exact hlen)) (by rw [nI_clamp (Nat.lt_trans hj hlen), hI_wL, wLf_at 8 rfl nd]; exact kk)
theorem g_lis8 {p0 p1 p2 p3 p4 p5 p6 p7 : Nat × (Nat → Int32)} (hd : decode (mC M) pc = .ok (.iastore, 1)) (hk : hK h a = 20) (hl : hL h a = len) (hj : j < len) (hlen : len < 2 ^ 31) (nd : ((p0 :: p1 :: p2 :: p3 :: p4 :: p5 :: p6 :: p7 :: (a, g) :: R).map Prod.fst).Nodup)
    (kk : G E M (pc + 1) lv st (wL h (p0 :: p1 :: p2 :: p3 :: p4 :: p5 :: p6 :: p7 :: (a, u1 g j v) :: R)) k n P X) : G E M pc lv (.int v :: .int (nI j) :: .ref a :: st) (wL h (p0 :: p1 :: p2 :: p3 :: p4 :: p5 :: p6 :: p7 :: (a, g) :: R)) k n P X :=
  g_iastore hd hk (vp_in_nI (show j < hL h a by rw [hl]; exact hj) (show hL h a < 2 ^ 31 by rw [hl]; exact hlen)) (by rw [nI_clamp (Nat.lt_trans hj hlen), wL_sI 8 rfl nd]; exact kk)
theorem g_lbs8 {p0 p1 p2 p3 p4 p5 p6 p7 : Nat × (Nat → Int32)} (hd : decode (mC M) pc = .ok (.bastore, 1)) (hk : hK h a = 21) (hl : hL h a = len) (hj : j < len) (hlen : len < 2 ^ 31) (nd : ((p0 :: p1 :: p2 :: p3 :: p4 :: p5 :: p6 :: p7 :: (a, g) :: R).map Prod.fst).Nodup)
    (kk : G E M (pc + 1) lv st (wL h (p0 :: p1 :: p2 :: p3 :: p4 :: p5 :: p6 :: p7 :: (a, u1 g j (vp_nar .byte v)) :: R)) k n P X) : G E M pc lv (.int v :: .int (nI j) :: .ref a :: st) (wL h (p0 :: p1 :: p2 :: p3 :: p4 :: p5 :: p6 :: p7 :: (a, g) :: R)) k n P X :=
  g_bastore hd hk (vp_in_nI (show j < hL h a by rw [hl]; exact hj) (show hL h a < 2 ^ 31 by rw [hl]; exact hlen)) (by rw [nI_clamp (Nat.lt_trans hj hlen), wL_sI 8 rfl nd]; exact kk)
theorem g_lzs8 {p0 p1 p2 p3 p4 p5 p6 p7 : Nat × (Nat → Int32)} (hd : decode (mC M) pc = .ok (.bastore, 1)) (hk : hK h a = 22) (hl : hL h a = len) (hj : j < len) (hlen : len < 2 ^ 31) (nd : ((p0 :: p1 :: p2 :: p3 :: p4 :: p5 :: p6 :: p7 :: (a, g) :: R).map Prod.fst).Nodup)
    (kk : G E M (pc + 1) lv st (wL h (p0 :: p1 :: p2 :: p3 :: p4 :: p5 :: p6 :: p7 :: (a, u1 g j (vp_nar .boolean v)) :: R)) k n P X) : G E M pc lv (.int v :: .int (nI j) :: .ref a :: st) (wL h (p0 :: p1 :: p2 :: p3 :: p4 :: p5 :: p6 :: p7 :: (a, g) :: R)) k n P X :=
  g_zastore hd hk (vp_in_nI (show j < hL h a by rw [hl]; exact hj) (show hL h a < 2 ^ 31 by rw [hl]; exact hlen)) (by rw [nI_clamp (Nat.lt_trans hj hlen), wL_sI 8 rfl nd]; exact kk)
theorem g_lcs8 {p0 p1 p2 p3 p4 p5 p6 p7 : Nat × (Nat → Int32)} (hd : decode (mC M) pc = .ok (.castore, 1)) (hk : hK h a = 23) (hl : hL h a = len) (hj : j < len) (hlen : len < 2 ^ 31) (nd : ((p0 :: p1 :: p2 :: p3 :: p4 :: p5 :: p6 :: p7 :: (a, g) :: R).map Prod.fst).Nodup)
    (kk : G E M (pc + 1) lv st (wL h (p0 :: p1 :: p2 :: p3 :: p4 :: p5 :: p6 :: p7 :: (a, u1 g j (vp_nar .char v)) :: R)) k n P X) : G E M pc lv (.int v :: .int (nI j) :: .ref a :: st) (wL h (p0 :: p1 :: p2 :: p3 :: p4 :: p5 :: p6 :: p7 :: (a, g) :: R)) k n P X :=
  g_castore hd hk (vp_in_nI (show j < hL h a by rw [hl]; exact hj) (show hL h a < 2 ^ 31 by rw [hl]; exact hlen)) (by rw [nI_clamp (Nat.lt_trans hj hlen), wL_sI 8 rfl nd]; exact kk)
end
/-! the bureau and such cells -/
def Fo (h : Hp) (b q : Nat) : Prop := q ≠ b ∧ q ≠ rA h b 12 ∧ ∀ i, i < 8 → q ≠ sh h b i
theorem shAt_fo {h : Hp} {b q : Nat} (hq : ∀ i, i < 8 → q ≠ sh h b i) : shAt h b q 8 = none := by
  cases e : shAt h b q 8 with
  | none => rfl
  | some i =>
    have := shAt_some 8 e
    exact absurd this.2 (hq i this.1)
theorem hI_fo {h : Hp} {b q : Nat} {B : Bu} (hq : Fo h b q) : hI (wB h b B) q = hI h q := by
  rw [hI_wB]; unfold wBf
  rw [if_neg hq.1, if_neg hq.2.1, shAt_fo hq.2.2]
theorem wBf_fo {h : Hp} {b q : Nat} {B : Bu} (hq : Fo h b q) : wBf h b B q = hI h q := hI_fo hq
theorem wB_wL {h : Hp} {b : Nat} {B : Bu} {L : List (Nat × (Nat → Int32))} (hL : ∀ q, q ∈ L.map Prod.fst → Fo h b q) : wB (wL h L) b B = wL (wB h b B) L := by
  refine Prod.ext ?_ rfl
  funext q
  show wBf (wL h L) b B q = wLf (wB h b B) L q
  by_cases hm : q ∈ L.map Prod.fst
  · have hf := hL q hm
    have e1 : wBf (wL h L) b B q = wLf h L q := wBf_fo (h := wL h L) hf
    rw [e1]
    clear e1 hf
    induction L with
    | nil => cases hm
    | cons p L ih =>
      obtain ⟨a, f⟩ := p
      show (if q = a then f else wLf h L q) = if q = a then f else wLf (wB h b B) L q
      by_cases e : q = a
      · rw [if_pos e, if_pos e]
      · rw [if_neg e, if_neg e]
        refine ih (fun q hq => hL q (List.mem_cons_of_mem _ hq)) ?_
        rcases List.mem_cons.mp hm with z | z
        · exact absurd z e
        · exact z
  · rw [wLf_out hm]
    show wBf (wL h L) b B q = wBf h b B q
    have e0 : hI (wL h L) q = hI h q := wLf_out hm
    have e2 : shAt (wL h L) b q 8 = shAt h b q 8 := rfl
    have e3 : rA (wL h L) b 12 = rA h b 12 := rfl
    unfold wBf
    rw [e0, e2, e3]
