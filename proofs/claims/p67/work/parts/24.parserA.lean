/-! THE PARSER -/
abbrev Tk : Type := Nat × Nat × Nat × Int32
abbrev Ps : Type := Tk × Int32 × Int32 × Int32
def rF (F0 : Nat → Int32) (n : Nat) (t : Tk) : Nat → Int32 := TF F0 n t.1 t.2.1 t.2.2.1 t.2.2.2
def rP (P0 : Nat → Int32) (q : Int32 × Int32 × Int32) : Nat → Int32 := u1 (u1 (u1 P0 3 q.1) 4 q.2.1) 5 q.2.2
section
variable {F0 P0 : Nat → Int32} {n : Nat} {t : Tk} {q : Int32 × Int32 × Int32} {x : Int32}
theorem rF_2 : rF F0 n t 2 = nI t.1 := rfl
theorem rF_3 : rF F0 n t 3 = nI t.2.1 := rfl
theorem rF_5 : rF F0 n t 5 = t.2.2.2 := rfl
theorem rP_3 : rP P0 q 3 = q.1 := rfl
theorem rP_p3 : u1 (rP P0 q) 3 x = rP P0 (x, q.2) := by
  unfold rP
  rw [u1_comm _ (a := 5) (b := 3) _ _ (by decide), u1_comm _ (a := 4) (b := 3) _ _ (by decide), u1_u1]
theorem rP_p4 : u1 (rP P0 q) 4 x = rP P0 (q.1, x, q.2.2) := by
  unfold rP
  rw [u1_comm _ (a := 5) (b := 4) _ _ (by decide), u1_u1]
theorem rP_p5 : u1 (rP P0 q) 5 x = rP P0 (q.1, q.2.1, x) := by
  unfold rP
  rw [u1_u1]
end
theorem bI_n0 {z : Bool} (h : ¬ bI z = 0) : z = true := by cases z with
  | false => exact absurd rfl h
  | true => rfl
theorem nar_bI (z : Bool) : narrow .boolean (.int (bI z)) = .int (bI z) := by cases z <;> rfl
def TkO (n : Nat) (t : Tk) : Prop := t.1 ≤ 4 ∧ t.2.1 ≤ t.2.2.1 ∧ t.2.2.1 ≤ n
def Y_nx (T : Nat → Int32) (n : Nat) (t : Tk) : Tk := ((X_tok T n t.2.2.1).1, (X_tok T n t.2.2.1).2.1, (X_tok T n t.2.2.1).2.2, X_val T n t.2.2.1 t.2.2.2)
theorem TkO_tok {T : Nat → Int32} {n e : Nat} {v : Int32} (he : e ≤ n) : TkO n ((X_tok T n e).1, (X_tok T n e).2.1, (X_tok T n e).2.2, v) := by
  generalize hs : X_wh X_sp T (n - e) e = s
  have h1 := X_wh_le X_sp T (n - e) e
  rw [hs] at h1
  have h2 := X_wh_le X_let T (n - s) s
  have h3 := X_wh_le X_dig T (n - s) s
  have h4 := X_kind_le (T s)
  have h5 := X_kind_pos (T s)
  rw [X_tok_at hs rfl]
  unfold TkO
  dsimp only
  by_cases hsn : s < n
  · rw [if_pos hsn]
    refine ⟨h4, ?_, ?_⟩ <;> (split <;> (try split) <;> (try split)) <;> omega
  · rw [if_neg hsn]
    refine ⟨by decide, ?_, ?_⟩ <;> simp <;> omega
theorem TkO_nx {T : Nat → Int32} {n : Nat} {t : Tk} (h : TkO n t) : TkO n (Y_nx T n t) := TkO_tok h.2.2
def Y_fail (err : Int32) (q : Ps) : Ps := (q.1, q.2.1, err, nI q.1.2.1)
def Y_next (T : Nat → Int32) (n : Nat) (q : Ps) : Ps := (Y_nx T n q.1, q.2)
def Y_isw (T : Nat → Int32) (t : Tk) (w : Nat) : Bool := X_isw T t.1 t.2.1 t.2.2.1 (strB.getD w [])
def Y_word (T : Nat → Int32) (n w : Nat) (q : Ps) : Bool × Ps := if Y_isw T q.1 w = true then (true, Y_next T n q) else (false, Y_fail 1 q)
def Y_semi (T : Nat → Int32) (n : Nat) (q : Ps) : Bool × Ps := if q.1.1 = 3 then (true, Y_next T n q) else (false, Y_fail 1 q)
def Y_in (lo hi : Int32) (q : Ps) : Bool × Ps := if q.1.1 = 2 then (if lo ≤ q.1.2.2.2 ∧ q.1.2.2.2 ≤ hi then (true, q) else (false, Y_fail 2 q)) else (false, Y_fail 1 q)
def Y_num (T : Nat → Int32) (n : Nat) (lo hi : Int32) (q : Ps) : Bool × Ps := if (Y_in lo hi q).1 = true then (true, Y_nx T n q.1, q.1.2.2.2, q.2.2) else (false, (Y_in lo hi q).2)
def Y_row (T : Nat → Int32) (n : Nat) (l : List Int32) : Nat → Nat → Ps → (Nat → Int32) → Bool × Ps × (Nat → Int32)
  | 0, _, q, V => (true, q, V)
  | d + 1, i, q, V => if (Y_num T n (l.getD (2 * i) 0) (l.getD (2 * i + 1) 0) q).1 = true then Y_row T n l d (i + 1) (Y_num T n (l.getD (2 * i) 0) (l.getD (2 * i + 1) 0) q).2 (u1 V i (Y_num T n (l.getD (2 * i) 0) (l.getD (2 * i + 1) 0) q).2.2.1) else (false, (Y_num T n (l.getD (2 * i) 0) (l.getD (2 * i + 1) 0) q).2, V)
theorem TkO_word {T : Nat → Int32} {n w : Nat} {q : Ps} (h : TkO n q.1) : TkO n (Y_word T n w q).2.1 := by
  unfold Y_word
  split
  · exact TkO_nx h
  · exact h
theorem TkO_semi {T : Nat → Int32} {n : Nat} {q : Ps} (h : TkO n q.1) : TkO n (Y_semi T n q).2.1 := by
  unfold Y_semi
  split
  · exact TkO_nx h
  · exact h
theorem Y_in_t {lo hi : Int32} {q : Ps} (h : (Y_in lo hi q).1 = true) : Y_in lo hi q = (true, q) := by
  unfold Y_in at *
  split
  · next h1 =>
    rw [if_pos h1] at h
    split
    · rfl
    · next h2 =>
      rw [if_neg h2] at h
      cases h
  · next h1 =>
    rw [if_neg h1] at h
    cases h
theorem Y_in_1 (lo hi : Int32) (q : Ps) : (Y_in lo hi q).2.1 = q.1 := by
  unfold Y_in
  split
  · split <;> rfl
  · rfl
theorem TkO_num {T : Nat → Int32} {n : Nat} {lo hi : Int32} {q : Ps} (h : TkO n q.1) : TkO n (Y_num T n lo hi q).2.1 := by
  unfold Y_num
  split
  · exact TkO_nx h
  · show TkO n (Y_in lo hi q).2.1
    rw [Y_in_1]
    exact h
theorem TkO_row {T : Nat → Int32} {n : Nat} {l : List Int32} : ∀ {d i : Nat} {q : Ps} {V : Nat → Int32}, TkO n q.1 → TkO n (Y_row T n l d i q V).2.1.1
  | 0, _, _, _, h => h
  | d + 1, i, q, V, h => by
    rw [Y_row]
    split
    · exact TkO_row (TkO_num h)
    · exact TkO_num h
def PaOk (h : Hp) (pa ip rw sc : Nat) : Prop := hK h pa = 2 ∧ hR h pa 0 = some ip ∧ hR h pa 1 = some sc ∧ hR h pa 2 = some rw ∧ hK h rw = 20 ∧ hL h rw = 8
section
variable {E : En} {h : Hp} {ip bt n : Nat} {F0 T : Nat → Int32} {t : Tk} {R : List (Nat × (Nat → Int32))}
theorem cy_IN_readNext (hI : InOk h ip bt) (nd : (ip :: bt :: R.map Prod.fst).Nodup) (hn : n ≤ 500) (ht : TkO n t) : CR E m_IN_readNext [.ref ip] (wL h ((ip, rF F0 n t) :: (bt, T) :: R)) none (wL h ((ip, rF F0 n (Y_nx T n t)) :: (bt, T) :: R)) := cx_IN_readNext hI nd hn ht.2.2
theorem cy_IN_isWord {w : Nat} (hI : InOk h ip bt) (nd : (ip :: bt :: R.map Prod.fst).Nodup) (hw : w < 8) (hn : n ≤ 500) (ht : TkO n t) : CR E m_IN_isWord [.ref ip, .ref (eS E w)] (wL h ((ip, rF F0 n t) :: (bt, T) :: R)) (some (.int (bI (Y_isw T t w)))) (wL h ((ip, rF F0 n t) :: (bt, T) :: R)) := cx_IN_isWord hI nd hw ht.1 ht.2.1 (Nat.le_trans ht.2.2 hn)
end
theorem d_PA_readFirstSetup_0 : decode (mC m_PA_readFirstSetup) 0 = .ok (.new 29, 3) := by decide +kernel
theorem d_PA_readFirstSetup_3 : decode (mC m_PA_readFirstSetup) 3 = .ok (.dup, 1) := by decide +kernel
theorem d_PA_readFirstSetup_4 : decode (mC m_PA_readFirstSetup) 4 = .ok (.invokespecial 31, 3) := by decide +kernel
theorem d_PA_readFirstSetup_7 : decode (mC m_PA_readFirstSetup) 7 = .ok (.astore_n 1, 1) := by decide +kernel
theorem d_PA_readFirstSetup_8 : decode (mC m_PA_readFirstSetup) 8 = .ok (.aload_n 0, 1) := by decide +kernel
theorem d_PA_readFirstSetup_9 : decode (mC m_PA_readFirstSetup) 9 = .ok (.getfield 12, 3) := by decide +kernel
theorem d_PA_readFirstSetup_12 : decode (mC m_PA_readFirstSetup) 12 = .ok (.ldc 32, 2) := by decide +kernel
theorem d_PA_readFirstSetup_14 : decode (mC m_PA_readFirstSetup) 14 = .ok (.invokevirtual 34, 3) := by decide +kernel
theorem d_PA_readFirstSetup_17 : decode (mC m_PA_readFirstSetup) 17 = .ok (.aload_n 0, 1) := by decide +kernel
theorem d_PA_readFirstSetup_18 : decode (mC m_PA_readFirstSetup) 18 = .ok (.aload_n 1, 1) := by decide +kernel
theorem d_PA_readFirstSetup_19 : decode (mC m_PA_readFirstSetup) 19 = .ok (.invokevirtual 38, 3) := by decide +kernel
theorem d_PA_readFirstSetup_22 : decode (mC m_PA_readFirstSetup) 22 = .ok (.pop, 1) := by decide +kernel
theorem d_PA_readFirstSetup_23 : decode (mC m_PA_readFirstSetup) 23 = .ok (.aload_n 0, 1) := by decide +kernel
theorem d_PA_readFirstSetup_24 : decode (mC m_PA_readFirstSetup) 24 = .ok (.getfield 12, 3) := by decide +kernel
theorem d_PA_readFirstSetup_27 : decode (mC m_PA_readFirstSetup) 27 = .ok (.iconst 0, 1) := by decide +kernel
theorem d_PA_readFirstSetup_28 : decode (mC m_PA_readFirstSetup) 28 = .ok (.putfield 42, 3) := by decide +kernel
theorem d_PA_readFirstSetup_31 : decode (mC m_PA_readFirstSetup) 31 = .ok (.aload_n 1, 1) := by decide +kernel
theorem d_PA_readFirstSetup_32 : decode (mC m_PA_readFirstSetup) 32 = .ok (.areturn, 1) := by decide +kernel
theorem d_PA_readSetup_0 : decode (mC m_PA_readSetup) 0 = .ok (.aload_n 0, 1) := by decide +kernel
theorem d_PA_readSetup_1 : decode (mC m_PA_readSetup) 1 = .ok (.invokevirtual 46, 3) := by decide +kernel
theorem d_PA_readSetup_4 : decode (mC m_PA_readSetup) 4 = .ok (.aload_n 0, 1) := by decide +kernel
theorem d_PA_readSetup_5 : decode (mC m_PA_readSetup) 5 = .ok (.aload_n 1, 1) := by decide +kernel
theorem d_PA_readSetup_6 : decode (mC m_PA_readSetup) 6 = .ok (.invokevirtual 49, 3) := by decide +kernel
theorem d_PA_readSetup_9 : decode (mC m_PA_readSetup) 9 = .ok (.ifCond .eq 23, 3) := by decide +kernel
theorem d_PA_readSetup_12 : decode (mC m_PA_readSetup) 12 = .ok (.aload_n 0, 1) := by decide +kernel
theorem d_PA_readSetup_13 : decode (mC m_PA_readSetup) 13 = .ok (.aload_n 1, 1) := by decide +kernel
theorem d_PA_readSetup_14 : decode (mC m_PA_readSetup) 14 = .ok (.invokevirtual 52, 3) := by decide +kernel
theorem d_PA_readSetup_17 : decode (mC m_PA_readSetup) 17 = .ok (.ifCond .eq 15, 3) := by decide +kernel
theorem d_PA_readSetup_20 : decode (mC m_PA_readSetup) 20 = .ok (.aload_n 0, 1) := by decide +kernel
theorem d_PA_readSetup_21 : decode (mC m_PA_readSetup) 21 = .ok (.aload_n 1, 1) := by decide +kernel
theorem d_PA_readSetup_22 : decode (mC m_PA_readSetup) 22 = .ok (.invokevirtual 55, 3) := by decide +kernel
theorem d_PA_readSetup_25 : decode (mC m_PA_readSetup) 25 = .ok (.ifCond .eq 7, 3) := by decide +kernel
theorem d_PA_readSetup_28 : decode (mC m_PA_readSetup) 28 = .ok (.iconst 1, 1) := by decide +kernel
theorem d_PA_readSetup_29 : decode (mC m_PA_readSetup) 29 = .ok (.goto 4, 3) := by decide +kernel
theorem d_PA_readSetup_32 : decode (mC m_PA_readSetup) 32 = .ok (.iconst 0, 1) := by decide +kernel
theorem d_PA_readSetup_33 : decode (mC m_PA_readSetup) 33 = .ok (.ireturn, 1) := by decide +kernel
theorem d_PA_start_0 : decode (mC m_PA_start) 0 = .ok (.aload_n 0, 1) := by decide +kernel
theorem d_PA_start_1 : decode (mC m_PA_start) 1 = .ok (.iconst 0, 1) := by decide +kernel
theorem d_PA_start_2 : decode (mC m_PA_start) 2 = .ok (.putfield 75, 3) := by decide +kernel
theorem d_PA_start_5 : decode (mC m_PA_start) 5 = .ok (.aload_n 0, 1) := by decide +kernel
theorem d_PA_start_6 : decode (mC m_PA_start) 6 = .ok (.iconst (-1), 1) := by decide +kernel
theorem d_PA_start_7 : decode (mC m_PA_start) 7 = .ok (.putfield 78, 3) := by decide +kernel
theorem d_PA_start_10 : decode (mC m_PA_start) 10 = .ok (.aload_n 0, 1) := by decide +kernel
theorem d_PA_start_11 : decode (mC m_PA_start) 11 = .ok (.getfield 12, 3) := by decide +kernel
theorem d_PA_start_14 : decode (mC m_PA_start) 14 = .ok (.invokevirtual 81, 3) := by decide +kernel
theorem d_PA_start_17 : decode (mC m_PA_start) 17 = .ok (.return_, 1) := by decide +kernel
theorem d_PA_readBureau_0 : decode (mC m_PA_readBureau) 0 = .ok (.aload_n 0, 1) := by decide +kernel
theorem d_PA_readBureau_1 : decode (mC m_PA_readBureau) 1 = .ok (.ldc 86, 2) := by decide +kernel
theorem d_PA_readBureau_3 : decode (mC m_PA_readBureau) 3 = .ok (.invokevirtual 88, 3) := by decide +kernel
theorem d_PA_readBureau_6 : decode (mC m_PA_readBureau) 6 = .ok (.ifCond .eq 20, 3) := by decide +kernel
theorem d_PA_readBureau_9 : decode (mC m_PA_readBureau) 9 = .ok (.aload_n 0, 1) := by decide +kernel
theorem d_PA_readBureau_10 : decode (mC m_PA_readBureau) 10 = .ok (.getstatic 92, 3) := by decide +kernel
theorem d_PA_readBureau_13 : decode (mC m_PA_readBureau) 13 = .ok (.invokevirtual 95, 3) := by decide +kernel
theorem d_PA_readBureau_16 : decode (mC m_PA_readBureau) 16 = .ok (.ifCond .eq 10, 3) := by decide +kernel
theorem d_PA_readBureau_19 : decode (mC m_PA_readBureau) 19 = .ok (.aload_n 0, 1) := by decide +kernel
theorem d_PA_readBureau_20 : decode (mC m_PA_readBureau) 20 = .ok (.invokevirtual 99, 3) := by decide +kernel
theorem d_PA_readBureau_23 : decode (mC m_PA_readBureau) 23 = .ok (.ifCond .ne 5, 3) := by decide +kernel
theorem d_PA_readBureau_26 : decode (mC m_PA_readBureau) 26 = .ok (.iconst 0, 1) := by decide +kernel
theorem d_PA_readBureau_27 : decode (mC m_PA_readBureau) 27 = .ok (.ireturn, 1) := by decide +kernel
theorem d_PA_readBureau_28 : decode (mC m_PA_readBureau) 28 = .ok (.aload_n 1, 1) := by decide +kernel
theorem d_PA_readBureau_29 : decode (mC m_PA_readBureau) 29 = .ok (.aload_n 0, 1) := by decide +kernel
theorem d_PA_readBureau_30 : decode (mC m_PA_readBureau) 30 = .ok (.getfield 25, 3) := by decide +kernel
theorem d_PA_readBureau_33 : decode (mC m_PA_readBureau) 33 = .ok (.invokevirtual 103, 3) := by decide +kernel
theorem d_PA_readBureau_36 : decode (mC m_PA_readBureau) 36 = .ok (.iconst 1, 1) := by decide +kernel
theorem d_PA_readBureau_37 : decode (mC m_PA_readBureau) 37 = .ok (.ireturn, 1) := by decide +kernel
theorem d_PA_takeWord_0 : decode (mC m_PA_takeWord) 0 = .ok (.aload_n 0, 1) := by decide +kernel
theorem d_PA_takeWord_1 : decode (mC m_PA_takeWord) 1 = .ok (.getfield 12, 3) := by decide +kernel
theorem d_PA_takeWord_4 : decode (mC m_PA_takeWord) 4 = .ok (.aload_n 1, 1) := by decide +kernel
theorem d_PA_takeWord_5 : decode (mC m_PA_takeWord) 5 = .ok (.invokevirtual 140, 3) := by decide +kernel
theorem d_PA_takeWord_8 : decode (mC m_PA_takeWord) 8 = .ok (.ifCond .ne 9, 3) := by decide +kernel
theorem d_PA_takeWord_11 : decode (mC m_PA_takeWord) 11 = .ok (.aload_n 0, 1) := by decide +kernel
theorem d_PA_takeWord_12 : decode (mC m_PA_takeWord) 12 = .ok (.iconst 1, 1) := by decide +kernel
theorem d_PA_takeWord_13 : decode (mC m_PA_takeWord) 13 = .ok (.invokevirtual 72, 3) := by decide +kernel
theorem d_PA_takeWord_16 : decode (mC m_PA_takeWord) 16 = .ok (.ireturn, 1) := by decide +kernel
theorem d_PA_takeWord_17 : decode (mC m_PA_takeWord) 17 = .ok (.aload_n 0, 1) := by decide +kernel
theorem d_PA_takeWord_18 : decode (mC m_PA_takeWord) 18 = .ok (.getfield 12, 3) := by decide +kernel
theorem d_PA_takeWord_21 : decode (mC m_PA_takeWord) 21 = .ok (.invokevirtual 129, 3) := by decide +kernel
theorem d_PA_takeWord_24 : decode (mC m_PA_takeWord) 24 = .ok (.iconst 1, 1) := by decide +kernel
theorem d_PA_takeWord_25 : decode (mC m_PA_takeWord) 25 = .ok (.ireturn, 1) := by decide +kernel
theorem d_PA_fail_0 : decode (mC m_PA_fail) 0 = .ok (.aload_n 0, 1) := by decide +kernel
theorem d_PA_fail_1 : decode (mC m_PA_fail) 1 = .ok (.iload_n 1, 1) := by decide +kernel
theorem d_PA_fail_2 : decode (mC m_PA_fail) 2 = .ok (.putfield 75, 3) := by decide +kernel
theorem d_PA_fail_5 : decode (mC m_PA_fail) 5 = .ok (.aload_n 0, 1) := by decide +kernel
theorem d_PA_fail_6 : decode (mC m_PA_fail) 6 = .ok (.aload_n 0, 1) := by decide +kernel
theorem d_PA_fail_7 : decode (mC m_PA_fail) 7 = .ok (.getfield 12, 3) := by decide +kernel
theorem d_PA_fail_10 : decode (mC m_PA_fail) 10 = .ok (.getfield 84, 3) := by decide +kernel
theorem d_PA_fail_13 : decode (mC m_PA_fail) 13 = .ok (.putfield 78, 3) := by decide +kernel
theorem d_PA_fail_16 : decode (mC m_PA_fail) 16 = .ok (.iconst 0, 1) := by decide +kernel
theorem d_PA_fail_17 : decode (mC m_PA_fail) 17 = .ok (.ireturn, 1) := by decide +kernel
theorem d_PA_takeRow_0 : decode (mC m_PA_takeRow) 0 = .ok (.iconst 0, 1) := by decide +kernel
theorem d_PA_takeRow_1 : decode (mC m_PA_takeRow) 1 = .ok (.istore_n 2, 1) := by decide +kernel
theorem d_PA_takeRow_2 : decode (mC m_PA_takeRow) 2 = .ok (.iload_n 2, 1) := by decide +kernel
theorem d_PA_takeRow_3 : decode (mC m_PA_takeRow) 3 = .ok (.bipush 8, 2) := by decide +kernel
theorem d_PA_takeRow_5 : decode (mC m_PA_takeRow) 5 = .ok (.if_icmp .ge 50, 3) := by decide +kernel
theorem d_PA_takeRow_8 : decode (mC m_PA_takeRow) 8 = .ok (.iconst 2, 1) := by decide +kernel
theorem d_PA_takeRow_9 : decode (mC m_PA_takeRow) 9 = .ok (.iload_n 2, 1) := by decide +kernel
theorem d_PA_takeRow_10 : decode (mC m_PA_takeRow) 10 = .ok (.imul, 1) := by decide +kernel
theorem d_PA_takeRow_11 : decode (mC m_PA_takeRow) 11 = .ok (.iconst 1, 1) := by decide +kernel
theorem d_PA_takeRow_12 : decode (mC m_PA_takeRow) 12 = .ok (.iadd, 1) := by decide +kernel
theorem d_PA_takeRow_13 : decode (mC m_PA_takeRow) 13 = .ok (.aload_n 1, 1) := by decide +kernel
theorem d_PA_takeRow_14 : decode (mC m_PA_takeRow) 14 = .ok (.arraylength, 1) := by decide +kernel
theorem d_PA_takeRow_15 : decode (mC m_PA_takeRow) 15 = .ok (.if_icmp .ge 40, 3) := by decide +kernel
theorem d_PA_takeRow_18 : decode (mC m_PA_takeRow) 18 = .ok (.aload_n 0, 1) := by decide +kernel
theorem d_PA_takeRow_19 : decode (mC m_PA_takeRow) 19 = .ok (.aload_n 1, 1) := by decide +kernel
theorem d_PA_takeRow_20 : decode (mC m_PA_takeRow) 20 = .ok (.iconst 2, 1) := by decide +kernel
theorem d_PA_takeRow_21 : decode (mC m_PA_takeRow) 21 = .ok (.iload_n 2, 1) := by decide +kernel
theorem d_PA_takeRow_22 : decode (mC m_PA_takeRow) 22 = .ok (.imul, 1) := by decide +kernel
theorem d_PA_takeRow_23 : decode (mC m_PA_takeRow) 23 = .ok (.iaload, 1) := by decide +kernel
theorem d_PA_takeRow_24 : decode (mC m_PA_takeRow) 24 = .ok (.aload_n 1, 1) := by decide +kernel
theorem d_PA_takeRow_25 : decode (mC m_PA_takeRow) 25 = .ok (.iconst 2, 1) := by decide +kernel
theorem d_PA_takeRow_26 : decode (mC m_PA_takeRow) 26 = .ok (.iload_n 2, 1) := by decide +kernel
theorem d_PA_takeRow_27 : decode (mC m_PA_takeRow) 27 = .ok (.imul, 1) := by decide +kernel
theorem d_PA_takeRow_28 : decode (mC m_PA_takeRow) 28 = .ok (.iconst 1, 1) := by decide +kernel
theorem d_PA_takeRow_29 : decode (mC m_PA_takeRow) 29 = .ok (.iadd, 1) := by decide +kernel
theorem d_PA_takeRow_30 : decode (mC m_PA_takeRow) 30 = .ok (.iaload, 1) := by decide +kernel
theorem d_PA_takeRow_31 : decode (mC m_PA_takeRow) 31 = .ok (.invokevirtual 143, 3) := by decide +kernel
theorem d_PA_takeRow_34 : decode (mC m_PA_takeRow) 34 = .ok (.ifCond .ne 5, 3) := by decide +kernel
theorem d_PA_takeRow_37 : decode (mC m_PA_takeRow) 37 = .ok (.iconst 0, 1) := by decide +kernel
theorem d_PA_takeRow_38 : decode (mC m_PA_takeRow) 38 = .ok (.ireturn, 1) := by decide +kernel
theorem d_PA_takeRow_39 : decode (mC m_PA_takeRow) 39 = .ok (.aload_n 0, 1) := by decide +kernel
theorem d_PA_takeRow_40 : decode (mC m_PA_takeRow) 40 = .ok (.getfield 25, 3) := by decide +kernel
theorem d_PA_takeRow_43 : decode (mC m_PA_takeRow) 43 = .ok (.iload_n 2, 1) := by decide +kernel
theorem d_PA_takeRow_44 : decode (mC m_PA_takeRow) 44 = .ok (.aload_n 0, 1) := by decide +kernel
theorem d_PA_takeRow_45 : decode (mC m_PA_takeRow) 45 = .ok (.getfield 149, 3) := by decide +kernel
theorem d_PA_takeRow_48 : decode (mC m_PA_takeRow) 48 = .ok (.iastore, 1) := by decide +kernel
theorem d_PA_takeRow_49 : decode (mC m_PA_takeRow) 49 = .ok (.iinc 2 1, 3) := by decide +kernel
theorem d_PA_takeRow_52 : decode (mC m_PA_takeRow) 52 = .ok (.goto (-50), 3) := by decide +kernel
theorem d_PA_takeRow_55 : decode (mC m_PA_takeRow) 55 = .ok (.iconst 1, 1) := by decide +kernel
theorem d_PA_takeRow_56 : decode (mC m_PA_takeRow) 56 = .ok (.ireturn, 1) := by decide +kernel
theorem d_PA_takeNumber_0 : decode (mC m_PA_takeNumber) 0 = .ok (.aload_n 0, 1) := by decide +kernel
theorem d_PA_takeNumber_1 : decode (mC m_PA_takeNumber) 1 = .ok (.iload_n 1, 1) := by decide +kernel
theorem d_PA_takeNumber_2 : decode (mC m_PA_takeNumber) 2 = .ok (.iload_n 2, 1) := by decide +kernel
theorem d_PA_takeNumber_3 : decode (mC m_PA_takeNumber) 3 = .ok (.invokevirtual 112, 3) := by decide +kernel
theorem d_PA_takeNumber_6 : decode (mC m_PA_takeNumber) 6 = .ok (.ifCond .ne 5, 3) := by decide +kernel
theorem d_PA_takeNumber_9 : decode (mC m_PA_takeNumber) 9 = .ok (.iconst 0, 1) := by decide +kernel
theorem d_PA_takeNumber_10 : decode (mC m_PA_takeNumber) 10 = .ok (.ireturn, 1) := by decide +kernel
theorem d_PA_takeNumber_11 : decode (mC m_PA_takeNumber) 11 = .ok (.aload_n 0, 1) := by decide +kernel
theorem d_PA_takeNumber_12 : decode (mC m_PA_takeNumber) 12 = .ok (.aload_n 0, 1) := by decide +kernel
theorem d_PA_takeNumber_13 : decode (mC m_PA_takeNumber) 13 = .ok (.getfield 12, 3) := by decide +kernel
theorem d_PA_takeNumber_16 : decode (mC m_PA_takeNumber) 16 = .ok (.getfield 116, 3) := by decide +kernel
theorem d_PA_takeNumber_19 : decode (mC m_PA_takeNumber) 19 = .ok (.putfield 149, 3) := by decide +kernel
theorem d_PA_takeNumber_22 : decode (mC m_PA_takeNumber) 22 = .ok (.aload_n 0, 1) := by decide +kernel
theorem d_PA_takeNumber_23 : decode (mC m_PA_takeNumber) 23 = .ok (.getfield 12, 3) := by decide +kernel
theorem d_PA_takeNumber_26 : decode (mC m_PA_takeNumber) 26 = .ok (.invokevirtual 129, 3) := by decide +kernel
theorem d_PA_takeNumber_29 : decode (mC m_PA_takeNumber) 29 = .ok (.iconst 1, 1) := by decide +kernel
theorem d_PA_takeNumber_30 : decode (mC m_PA_takeNumber) 30 = .ok (.ireturn, 1) := by decide +kernel
theorem d_PA_isNumberWithin_0 : decode (mC m_PA_isNumberWithin) 0 = .ok (.aload_n 0, 1) := by decide +kernel
theorem d_PA_isNumberWithin_1 : decode (mC m_PA_isNumberWithin) 1 = .ok (.getfield 12, 3) := by decide +kernel
theorem d_PA_isNumberWithin_4 : decode (mC m_PA_isNumberWithin) 4 = .ok (.getfield 61, 3) := by decide +kernel
theorem d_PA_isNumberWithin_7 : decode (mC m_PA_isNumberWithin) 7 = .ok (.iconst 2, 1) := by decide +kernel
theorem d_PA_isNumberWithin_8 : decode (mC m_PA_isNumberWithin) 8 = .ok (.if_icmp .eq 9, 3) := by decide +kernel
theorem d_PA_isNumberWithin_11 : decode (mC m_PA_isNumberWithin) 11 = .ok (.aload_n 0, 1) := by decide +kernel
theorem d_PA_isNumberWithin_12 : decode (mC m_PA_isNumberWithin) 12 = .ok (.iconst 1, 1) := by decide +kernel
theorem d_PA_isNumberWithin_13 : decode (mC m_PA_isNumberWithin) 13 = .ok (.invokevirtual 72, 3) := by decide +kernel
theorem d_PA_isNumberWithin_16 : decode (mC m_PA_isNumberWithin) 16 = .ok (.ireturn, 1) := by decide +kernel
theorem d_PA_isNumberWithin_17 : decode (mC m_PA_isNumberWithin) 17 = .ok (.aload_n 0, 1) := by decide +kernel
theorem d_PA_isNumberWithin_18 : decode (mC m_PA_isNumberWithin) 18 = .ok (.getfield 12, 3) := by decide +kernel
theorem d_PA_isNumberWithin_21 : decode (mC m_PA_isNumberWithin) 21 = .ok (.getfield 116, 3) := by decide +kernel
theorem d_PA_isNumberWithin_24 : decode (mC m_PA_isNumberWithin) 24 = .ok (.iload_n 1, 1) := by decide +kernel
theorem d_PA_isNumberWithin_25 : decode (mC m_PA_isNumberWithin) 25 = .ok (.if_icmp .lt 14, 3) := by decide +kernel
theorem d_PA_isNumberWithin_28 : decode (mC m_PA_isNumberWithin) 28 = .ok (.aload_n 0, 1) := by decide +kernel
theorem d_PA_isNumberWithin_29 : decode (mC m_PA_isNumberWithin) 29 = .ok (.getfield 12, 3) := by decide +kernel
theorem d_PA_isNumberWithin_32 : decode (mC m_PA_isNumberWithin) 32 = .ok (.getfield 116, 3) := by decide +kernel
theorem d_PA_isNumberWithin_35 : decode (mC m_PA_isNumberWithin) 35 = .ok (.iload_n 2, 1) := by decide +kernel
theorem d_PA_isNumberWithin_36 : decode (mC m_PA_isNumberWithin) 36 = .ok (.if_icmp .le 11, 3) := by decide +kernel
theorem d_PA_isNumberWithin_39 : decode (mC m_PA_isNumberWithin) 39 = .ok (.aload_n 0, 1) := by decide +kernel
theorem d_PA_isNumberWithin_40 : decode (mC m_PA_isNumberWithin) 40 = .ok (.iconst 2, 1) := by decide +kernel
theorem d_PA_isNumberWithin_41 : decode (mC m_PA_isNumberWithin) 41 = .ok (.invokevirtual 72, 3) := by decide +kernel
theorem d_PA_isNumberWithin_44 : decode (mC m_PA_isNumberWithin) 44 = .ok (.ifCond .eq 7, 3) := by decide +kernel
theorem d_PA_isNumberWithin_47 : decode (mC m_PA_isNumberWithin) 47 = .ok (.iconst 1, 1) := by decide +kernel
theorem d_PA_isNumberWithin_48 : decode (mC m_PA_isNumberWithin) 48 = .ok (.goto 4, 3) := by decide +kernel
theorem d_PA_isNumberWithin_51 : decode (mC m_PA_isNumberWithin) 51 = .ok (.iconst 0, 1) := by decide +kernel
theorem d_PA_isNumberWithin_52 : decode (mC m_PA_isNumberWithin) 52 = .ok (.ireturn, 1) := by decide +kernel
theorem d_PA_takeSemicolon_0 : decode (mC m_PA_takeSemicolon) 0 = .ok (.aload_n 0, 1) := by decide +kernel
theorem d_PA_takeSemicolon_1 : decode (mC m_PA_takeSemicolon) 1 = .ok (.getfield 12, 3) := by decide +kernel
theorem d_PA_takeSemicolon_4 : decode (mC m_PA_takeSemicolon) 4 = .ok (.getfield 61, 3) := by decide +kernel
theorem d_PA_takeSemicolon_7 : decode (mC m_PA_takeSemicolon) 7 = .ok (.iconst 3, 1) := by decide +kernel
theorem d_PA_takeSemicolon_8 : decode (mC m_PA_takeSemicolon) 8 = .ok (.if_icmp .eq 9, 3) := by decide +kernel
theorem d_PA_takeSemicolon_11 : decode (mC m_PA_takeSemicolon) 11 = .ok (.aload_n 0, 1) := by decide +kernel
theorem d_PA_takeSemicolon_12 : decode (mC m_PA_takeSemicolon) 12 = .ok (.iconst 1, 1) := by decide +kernel
theorem d_PA_takeSemicolon_13 : decode (mC m_PA_takeSemicolon) 13 = .ok (.invokevirtual 72, 3) := by decide +kernel
theorem d_PA_takeSemicolon_16 : decode (mC m_PA_takeSemicolon) 16 = .ok (.ireturn, 1) := by decide +kernel
theorem d_PA_takeSemicolon_17 : decode (mC m_PA_takeSemicolon) 17 = .ok (.aload_n 0, 1) := by decide +kernel
theorem d_PA_takeSemicolon_18 : decode (mC m_PA_takeSemicolon) 18 = .ok (.getfield 12, 3) := by decide +kernel
theorem d_PA_takeSemicolon_21 : decode (mC m_PA_takeSemicolon) 21 = .ok (.invokevirtual 129, 3) := by decide +kernel
theorem d_PA_takeSemicolon_24 : decode (mC m_PA_takeSemicolon) 24 = .ok (.iconst 1, 1) := by decide +kernel
theorem d_PA_takeSemicolon_25 : decode (mC m_PA_takeSemicolon) 25 = .ok (.ireturn, 1) := by decide +kernel
theorem d_PA_readWeights_0 : decode (mC m_PA_readWeights) 0 = .ok (.aload_n 0, 1) := by decide +kernel
theorem d_PA_readWeights_1 : decode (mC m_PA_readWeights) 1 = .ok (.ldc 107, 2) := by decide +kernel
theorem d_PA_readWeights_3 : decode (mC m_PA_readWeights) 3 = .ok (.invokevirtual 88, 3) := by decide +kernel
theorem d_PA_readWeights_6 : decode (mC m_PA_readWeights) 6 = .ok (.ifCond .eq 11, 3) := by decide +kernel
theorem d_PA_readWeights_9 : decode (mC m_PA_readWeights) 9 = .ok (.aload_n 0, 1) := by decide +kernel
theorem d_PA_readWeights_10 : decode (mC m_PA_readWeights) 10 = .ok (.aload_n 1, 1) := by decide +kernel
theorem d_PA_readWeights_11 : decode (mC m_PA_readWeights) 11 = .ok (.invokevirtual 109, 3) := by decide +kernel
theorem d_PA_readWeights_14 : decode (mC m_PA_readWeights) 14 = .ok (.ifCond .ne 5, 3) := by decide +kernel
theorem d_PA_readWeights_17 : decode (mC m_PA_readWeights) 17 = .ok (.iconst 0, 1) := by decide +kernel
theorem d_PA_readWeights_18 : decode (mC m_PA_readWeights) 18 = .ok (.ireturn, 1) := by decide +kernel
theorem d_PA_readWeights_19 : decode (mC m_PA_readWeights) 19 = .ok (.iconst 0, 1) := by decide +kernel
theorem d_PA_readWeights_20 : decode (mC m_PA_readWeights) 20 = .ok (.istore_n 2, 1) := by decide +kernel
theorem d_PA_readWeights_21 : decode (mC m_PA_readWeights) 21 = .ok (.iload_n 2, 1) := by decide +kernel
theorem d_PA_readWeights_22 : decode (mC m_PA_readWeights) 22 = .ok (.bipush 6, 2) := by decide +kernel
theorem d_PA_readWeights_24 : decode (mC m_PA_readWeights) 24 = .ok (.if_icmp .ge 30, 3) := by decide +kernel
theorem d_PA_readWeights_27 : decode (mC m_PA_readWeights) 27 = .ok (.aload_n 0, 1) := by decide +kernel
theorem d_PA_readWeights_28 : decode (mC m_PA_readWeights) 28 = .ok (.getfield 12, 3) := by decide +kernel
theorem d_PA_readWeights_31 : decode (mC m_PA_readWeights) 31 = .ok (.getfield 61, 3) := by decide +kernel
theorem d_PA_readWeights_34 : decode (mC m_PA_readWeights) 34 = .ok (.iconst 2, 1) := by decide +kernel
theorem d_PA_readWeights_35 : decode (mC m_PA_readWeights) 35 = .ok (.if_icmp .ne 19, 3) := by decide +kernel
theorem d_PA_readWeights_38 : decode (mC m_PA_readWeights) 38 = .ok (.aload_n 0, 1) := by decide +kernel
theorem d_PA_readWeights_39 : decode (mC m_PA_readWeights) 39 = .ok (.aload_n 1, 1) := by decide +kernel
theorem d_PA_readWeights_40 : decode (mC m_PA_readWeights) 40 = .ok (.invokevirtual 109, 3) := by decide +kernel
theorem d_PA_readWeights_43 : decode (mC m_PA_readWeights) 43 = .ok (.ifCond .ne 5, 3) := by decide +kernel
theorem d_PA_readWeights_46 : decode (mC m_PA_readWeights) 46 = .ok (.iconst 0, 1) := by decide +kernel
theorem d_PA_readWeights_47 : decode (mC m_PA_readWeights) 47 = .ok (.ireturn, 1) := by decide +kernel
theorem d_PA_readWeights_48 : decode (mC m_PA_readWeights) 48 = .ok (.iinc 2 1, 3) := by decide +kernel
theorem d_PA_readWeights_51 : decode (mC m_PA_readWeights) 51 = .ok (.goto (-30), 3) := by decide +kernel
theorem d_PA_readWeights_54 : decode (mC m_PA_readWeights) 54 = .ok (.aload_n 0, 1) := by decide +kernel
theorem d_PA_readWeights_55 : decode (mC m_PA_readWeights) 55 = .ok (.invokevirtual 99, 3) := by decide +kernel
theorem d_PA_readWeights_58 : decode (mC m_PA_readWeights) 58 = .ok (.ireturn, 1) := by decide +kernel
theorem d_PA_takeWeight_0 : decode (mC m_PA_takeWeight) 0 = .ok (.aload_n 0, 1) := by decide +kernel
theorem d_PA_takeWeight_1 : decode (mC m_PA_takeWeight) 1 = .ok (.iconst 1, 1) := by decide +kernel
theorem d_PA_takeWeight_2 : decode (mC m_PA_takeWeight) 2 = .ok (.sipush 5000, 3) := by decide +kernel
theorem d_PA_takeWeight_5 : decode (mC m_PA_takeWeight) 5 = .ok (.invokevirtual 112, 3) := by decide +kernel
theorem d_PA_takeWeight_8 : decode (mC m_PA_takeWeight) 8 = .ok (.ifCond .ne 5, 3) := by decide +kernel
theorem d_PA_takeWeight_11 : decode (mC m_PA_takeWeight) 11 = .ok (.iconst 0, 1) := by decide +kernel
theorem d_PA_takeWeight_12 : decode (mC m_PA_takeWeight) 12 = .ok (.ireturn, 1) := by decide +kernel
theorem d_PA_takeWeight_13 : decode (mC m_PA_takeWeight) 13 = .ok (.aload_n 1, 1) := by decide +kernel
theorem d_PA_takeWeight_14 : decode (mC m_PA_takeWeight) 14 = .ok (.aload_n 0, 1) := by decide +kernel
theorem d_PA_takeWeight_15 : decode (mC m_PA_takeWeight) 15 = .ok (.getfield 12, 3) := by decide +kernel
theorem d_PA_takeWeight_18 : decode (mC m_PA_takeWeight) 18 = .ok (.getfield 116, 3) := by decide +kernel
theorem d_PA_takeWeight_21 : decode (mC m_PA_takeWeight) 21 = .ok (.invokevirtual 119, 3) := by decide +kernel
theorem d_PA_takeWeight_24 : decode (mC m_PA_takeWeight) 24 = .ok (.ifCond .eq 9, 3) := by decide +kernel
theorem d_PA_takeWeight_27 : decode (mC m_PA_takeWeight) 27 = .ok (.aload_n 0, 1) := by decide +kernel
theorem d_PA_takeWeight_28 : decode (mC m_PA_takeWeight) 28 = .ok (.iconst 3, 1) := by decide +kernel
theorem d_PA_takeWeight_29 : decode (mC m_PA_takeWeight) 29 = .ok (.invokevirtual 72, 3) := by decide +kernel
theorem d_PA_takeWeight_32 : decode (mC m_PA_takeWeight) 32 = .ok (.ireturn, 1) := by decide +kernel
theorem d_PA_takeWeight_33 : decode (mC m_PA_takeWeight) 33 = .ok (.aload_n 1, 1) := by decide +kernel
theorem d_PA_takeWeight_34 : decode (mC m_PA_takeWeight) 34 = .ok (.getfield 122, 3) := by decide +kernel
theorem d_PA_takeWeight_37 : decode (mC m_PA_takeWeight) 37 = .ok (.bipush 6, 2) := by decide +kernel
theorem d_PA_takeWeight_39 : decode (mC m_PA_takeWeight) 39 = .ok (.if_icmp .lt 9, 3) := by decide +kernel
theorem d_PA_takeWeight_42 : decode (mC m_PA_takeWeight) 42 = .ok (.aload_n 0, 1) := by decide +kernel
theorem d_PA_takeWeight_43 : decode (mC m_PA_takeWeight) 43 = .ok (.iconst 4, 1) := by decide +kernel
theorem d_PA_takeWeight_44 : decode (mC m_PA_takeWeight) 44 = .ok (.invokevirtual 72, 3) := by decide +kernel
theorem d_PA_takeWeight_47 : decode (mC m_PA_takeWeight) 47 = .ok (.ireturn, 1) := by decide +kernel
theorem d_PA_takeWeight_48 : decode (mC m_PA_takeWeight) 48 = .ok (.aload_n 1, 1) := by decide +kernel
theorem d_PA_takeWeight_49 : decode (mC m_PA_takeWeight) 49 = .ok (.aload_n 0, 1) := by decide +kernel
theorem d_PA_takeWeight_50 : decode (mC m_PA_takeWeight) 50 = .ok (.getfield 12, 3) := by decide +kernel
theorem d_PA_takeWeight_53 : decode (mC m_PA_takeWeight) 53 = .ok (.getfield 116, 3) := by decide +kernel
theorem d_PA_takeWeight_56 : decode (mC m_PA_takeWeight) 56 = .ok (.invokevirtual 125, 3) := by decide +kernel
theorem d_PA_takeWeight_59 : decode (mC m_PA_takeWeight) 59 = .ok (.aload_n 0, 1) := by decide +kernel
theorem d_PA_takeWeight_60 : decode (mC m_PA_takeWeight) 60 = .ok (.getfield 12, 3) := by decide +kernel
theorem d_PA_takeWeight_63 : decode (mC m_PA_takeWeight) 63 = .ok (.invokevirtual 129, 3) := by decide +kernel
theorem d_PA_takeWeight_66 : decode (mC m_PA_takeWeight) 66 = .ok (.iconst 1, 1) := by decide +kernel
theorem d_PA_takeWeight_67 : decode (mC m_PA_takeWeight) 67 = .ok (.ireturn, 1) := by decide +kernel
theorem d_PA_readShops_0 : decode (mC m_PA_readShops) 0 = .ok (.iconst 0, 1) := by decide +kernel
theorem d_PA_readShops_1 : decode (mC m_PA_readShops) 1 = .ok (.istore_n 2, 1) := by decide +kernel
theorem d_PA_readShops_2 : decode (mC m_PA_readShops) 2 = .ok (.iload_n 2, 1) := by decide +kernel
theorem d_PA_readShops_3 : decode (mC m_PA_readShops) 3 = .ok (.bipush 8, 2) := by decide +kernel
theorem d_PA_readShops_5 : decode (mC m_PA_readShops) 5 = .ok (.if_icmp .ge 61, 3) := by decide +kernel
theorem d_PA_readShops_8 : decode (mC m_PA_readShops) 8 = .ok (.iload_n 2, 1) := by decide +kernel
theorem d_PA_readShops_9 : decode (mC m_PA_readShops) 9 = .ok (.ifCond .le 15, 3) := by decide +kernel
theorem d_PA_readShops_12 : decode (mC m_PA_readShops) 12 = .ok (.aload_n 0, 1) := by decide +kernel
theorem d_PA_readShops_13 : decode (mC m_PA_readShops) 13 = .ok (.getfield 12, 3) := by decide +kernel
theorem d_PA_readShops_16 : decode (mC m_PA_readShops) 16 = .ok (.getfield 61, 3) := by decide +kernel
theorem d_PA_readShops_19 : decode (mC m_PA_readShops) 19 = .ok (.ifCond .ne 5, 3) := by decide +kernel
theorem d_PA_readShops_22 : decode (mC m_PA_readShops) 22 = .ok (.iconst 1, 1) := by decide +kernel
theorem d_PA_readShops_23 : decode (mC m_PA_readShops) 23 = .ok (.ireturn, 1) := by decide +kernel
theorem d_PA_readShops_24 : decode (mC m_PA_readShops) 24 = .ok (.aload_n 0, 1) := by decide +kernel
theorem d_PA_readShops_25 : decode (mC m_PA_readShops) 25 = .ok (.ldc 132, 2) := by decide +kernel
theorem d_PA_readShops_27 : decode (mC m_PA_readShops) 27 = .ok (.invokevirtual 88, 3) := by decide +kernel
theorem d_PA_readShops_30 : decode (mC m_PA_readShops) 30 = .ok (.ifCond .eq 20, 3) := by decide +kernel
theorem d_PA_readShops_33 : decode (mC m_PA_readShops) 33 = .ok (.aload_n 0, 1) := by decide +kernel
theorem d_PA_readShops_34 : decode (mC m_PA_readShops) 34 = .ok (.getstatic 134, 3) := by decide +kernel
theorem d_PA_readShops_37 : decode (mC m_PA_readShops) 37 = .ok (.invokevirtual 95, 3) := by decide +kernel
theorem d_PA_readShops_40 : decode (mC m_PA_readShops) 40 = .ok (.ifCond .eq 10, 3) := by decide +kernel
theorem d_PA_readShops_43 : decode (mC m_PA_readShops) 43 = .ok (.aload_n 0, 1) := by decide +kernel
theorem d_PA_readShops_44 : decode (mC m_PA_readShops) 44 = .ok (.invokevirtual 99, 3) := by decide +kernel
theorem d_PA_readShops_47 : decode (mC m_PA_readShops) 47 = .ok (.ifCond .ne 5, 3) := by decide +kernel
theorem d_PA_readShops_50 : decode (mC m_PA_readShops) 50 = .ok (.iconst 0, 1) := by decide +kernel
theorem d_PA_readShops_51 : decode (mC m_PA_readShops) 51 = .ok (.ireturn, 1) := by decide +kernel
theorem d_PA_readShops_52 : decode (mC m_PA_readShops) 52 = .ok (.aload_n 1, 1) := by decide +kernel
theorem d_PA_readShops_53 : decode (mC m_PA_readShops) 53 = .ok (.aload_n 0, 1) := by decide +kernel
theorem d_PA_readShops_54 : decode (mC m_PA_readShops) 54 = .ok (.getfield 25, 3) := by decide +kernel
theorem d_PA_readShops_57 : decode (mC m_PA_readShops) 57 = .ok (.invokevirtual 137, 3) := by decide +kernel
theorem d_PA_readShops_60 : decode (mC m_PA_readShops) 60 = .ok (.iinc 2 1, 3) := by decide +kernel
theorem d_PA_readShops_63 : decode (mC m_PA_readShops) 63 = .ok (.goto (-61), 3) := by decide +kernel
theorem d_PA_readShops_66 : decode (mC m_PA_readShops) 66 = .ok (.aload_n 0, 1) := by decide +kernel
theorem d_PA_readShops_67 : decode (mC m_PA_readShops) 67 = .ok (.getfield 12, 3) := by decide +kernel
theorem d_PA_readShops_70 : decode (mC m_PA_readShops) 70 = .ok (.getfield 61, 3) := by decide +kernel
theorem d_PA_readShops_73 : decode (mC m_PA_readShops) 73 = .ok (.ifCond .eq 27, 3) := by decide +kernel
theorem d_PA_readShops_76 : decode (mC m_PA_readShops) 76 = .ok (.aload_n 0, 1) := by decide +kernel
theorem d_PA_readShops_77 : decode (mC m_PA_readShops) 77 = .ok (.aload_n 0, 1) := by decide +kernel
theorem d_PA_readShops_78 : decode (mC m_PA_readShops) 78 = .ok (.getfield 12, 3) := by decide +kernel
theorem d_PA_readShops_81 : decode (mC m_PA_readShops) 81 = .ok (.ldc 132, 2) := by decide +kernel
theorem d_PA_readShops_83 : decode (mC m_PA_readShops) 83 = .ok (.invokevirtual 140, 3) := by decide +kernel
theorem d_PA_readShops_86 : decode (mC m_PA_readShops) 86 = .ok (.ifCond .eq 7, 3) := by decide +kernel
theorem d_PA_readShops_89 : decode (mC m_PA_readShops) 89 = .ok (.iconst 4, 1) := by decide +kernel
theorem d_PA_readShops_90 : decode (mC m_PA_readShops) 90 = .ok (.goto 4, 3) := by decide +kernel
theorem d_PA_readShops_93 : decode (mC m_PA_readShops) 93 = .ok (.iconst 1, 1) := by decide +kernel
theorem d_PA_readShops_94 : decode (mC m_PA_readShops) 94 = .ok (.invokevirtual 72, 3) := by decide +kernel
theorem d_PA_readShops_97 : decode (mC m_PA_readShops) 97 = .ok (.ifCond .eq 7, 3) := by decide +kernel
theorem d_PA_readShops_100 : decode (mC m_PA_readShops) 100 = .ok (.iconst 1, 1) := by decide +kernel
theorem d_PA_readShops_101 : decode (mC m_PA_readShops) 101 = .ok (.goto 4, 3) := by decide +kernel
theorem d_PA_readShops_104 : decode (mC m_PA_readShops) 104 = .ok (.iconst 0, 1) := by decide +kernel
theorem d_PA_readShops_105 : decode (mC m_PA_readShops) 105 = .ok (.ireturn, 1) := by decide +kernel
set_option maxRecDepth 20000 in
theorem cx_PA_fail {E : En} {h : Hp} {ip bt pa rw sc n : Nat} {F0 T P0 V : Nat → Int32} {q : Ps} {R : List (Nat × (Nat → Int32))} {err : Int32} (hI : InOk h ip bt) (hP : PaOk h pa ip rw sc) (nd : (ip :: bt :: pa :: rw :: R.map Prod.fst).Nodup) (hn : n ≤ 500) (hq : TkO n q.1) : CR E m_PA_fail [.ref pa, .int err] (wL h ((ip, rF F0 n q.1) :: (bt, T) :: (pa, rP P0 q.2) :: (rw, V) :: R)) (some (.int 0)) (wL h ((ip, rF F0 n (Y_fail err q).1) :: (bt, T) :: (pa, rP P0 (Y_fail err q).2) :: (rw, V) :: R)) := by
  refine ct_of rfl (by decide +kernel) (Nat.le_of_ble_eq_true rfl) ?_
  show G E m_PA_fail 0 [(0, .ref pa), (1, .int err)] [] (wL h ((ip, rF F0 n q.1) :: (bt, T) :: (pa, rP P0 q.2) :: (rw, V) :: R)) 0 0 _ noX
  obtain ⟨k_ip, r_ip_0, k_bt, l_bt⟩ := id hI
  obtain ⟨k_pa, r_pa_0, r_pa_1, r_pa_2, k_rw, l_rw⟩ := id hP
  refine g_aload_n (pc := 0) d_PA_fail_0 rfl 0 rfl ?_
  refine g_iload_n (pc := 1) d_PA_fail_1 rfl 1 rfl ?_
  refine g_lpE2 (pc := 2) (ci := 1) (f := 4) (hg := rP_p4) rfl d_PA_fail_2 fl_PA_75 (fun q hq => by cases hq; exact rfl) rfl rfl (by decide) k_pa nd ?_
  refine g_aload_n (pc := 5) d_PA_fail_5 rfl 0 rfl ?_
  refine g_aload_n (pc := 6) d_PA_fail_6 rfl 0 rfl ?_
  refine g_getR (pc := 7) (ci := 1) (f := 0) (b := ip) rfl r_pa_0 d_PA_fail_7 fl_PA_12 (by decide) k_pa ?_
  refine g_lgI0 (pc := 10) (ci := 2) (f := 3) rfl d_PA_fail_10 fl_PA_84 (by decide) k_ip nd ?_
  refine g_top rF_3 ?_
  refine g_lpE2 (pc := 13) (ci := 1) (f := 5) (hg := rP_p5) rfl d_PA_fail_13 fl_PA_78 (fun q hq => by cases hq; exact rfl) rfl rfl (by decide) k_pa nd ?_
  refine g_iconst (pc := 16) (v := 0) d_PA_fail_16 (by decide) ?_
  refine g_zret (pc := 17) d_PA_fail_17 rfl (by first | rfl | exact nar_bI _) ?_
  exact ⟨rfl, rfl⟩
set_option maxRecDepth 20000 in
theorem cx_PA_takeWord {E : En} {h : Hp} {ip bt pa rw sc n : Nat} {F0 T P0 V : Nat → Int32} {q : Ps} {R : List (Nat × (Nat → Int32))} {w : Nat} (hI : InOk h ip bt) (hP : PaOk h pa ip rw sc) (nd : (ip :: bt :: pa :: rw :: R.map Prod.fst).Nodup) (hn : n ≤ 500) (hq : TkO n q.1) (hw : w < 8) : CR E m_PA_takeWord [.ref pa, .ref (eS E w)] (wL h ((ip, rF F0 n q.1) :: (bt, T) :: (pa, rP P0 q.2) :: (rw, V) :: R)) (some (.int (bI (Y_word T n w q).1))) (wL h ((ip, rF F0 n (Y_word T n w q).2.1) :: (bt, T) :: (pa, rP P0 (Y_word T n w q).2.2) :: (rw, V) :: R)) := by
  refine ct_of rfl (by decide +kernel) (Nat.le_of_ble_eq_true rfl) ?_
  show G E m_PA_takeWord 0 [(0, .ref pa), (1, .ref (eS E w))] [] (wL h ((ip, rF F0 n q.1) :: (bt, T) :: (pa, rP P0 q.2) :: (rw, V) :: R)) 0 0 _ noX
  obtain ⟨k_ip, r_ip_0, k_bt, l_bt⟩ := id hI
  obtain ⟨k_pa, r_pa_0, r_pa_1, r_pa_2, k_rw, l_rw⟩ := id hP
  refine g_aload_n (pc := 0) d_PA_takeWord_0 rfl 0 rfl ?_
  refine g_getR (pc := 1) (ci := 1) (f := 0) (b := ip) rfl r_pa_0 d_PA_takeWord_1 fl_PA_12 (by decide) k_pa ?_
  refine g_aload_n (pc := 4) d_PA_takeWord_4 rfl 1 rfl ?_
  refine g_cV1 (pc := 5) (ci := 2) (As := [.ref _]) d_PA_takeWord_5 rfl mv_IN_isWord st_PA_takeWord_140 rfl rfl (by decide) rfl rfl (Nat.le_of_ble_eq_true rfl) k_ip (cy_IN_isWord hI nd hw hn hq) ?_
  refine g_if_ne (pc := 8) (tgt := 17) d_PA_takeWord_8 (by decide) (fun c_8 => ?_) (fun c_8 => ?_)
  · skip
    have w1 := bI_n0 c_8
    refine g_aload_n (pc := 17) d_PA_takeWord_17 rfl 0 rfl ?_
    refine g_getR (pc := 18) (ci := 1) (f := 0) (b := ip) rfl r_pa_0 d_PA_takeWord_18 fl_PA_12 (by decide) k_pa ?_
    refine g_cV0 (pc := 21) (ci := 2) (As := []) d_PA_takeWord_21 rfl mv_IN_readNext st_PA_takeWord_129 rfl rfl (by decide) rfl rfl (Nat.le_of_ble_eq_true rfl) k_ip (cy_IN_readNext hI nd hn hq) ?_
    refine g_iconst (pc := 24) (v := 1) d_PA_takeWord_24 (by decide) ?_
    refine g_zret (pc := 25) d_PA_takeWord_25 rfl (by first | rfl | exact nar_bI _) ?_
    unfold Y_word
    rw [if_pos w1]
    exact ⟨rfl, rfl⟩
  · skip
    have w1 := bI_0.mp c_8
    have w2 : ¬ Y_isw T q.1 w = true := by rw [w1]; decide
    refine g_aload_n (pc := 11) d_PA_takeWord_11 rfl 0 rfl ?_
    refine g_iconst (pc := 12) (v := 1) d_PA_takeWord_12 (by decide) ?_
    refine g_cV1 (pc := 13) (ci := 1) (As := [.int _]) d_PA_takeWord_13 rfl mv_PA_fail st_PA_takeWord_72 rfl rfl (by decide) rfl rfl (Nat.le_of_ble_eq_true rfl) k_pa (cx_PA_fail hI hP nd hn hq) ?_
    refine g_zret (pc := 16) d_PA_takeWord_16 rfl (by first | rfl | exact nar_bI _) ?_
    unfold Y_word
    rw [if_neg w2]
    exact ⟨rfl, rfl⟩
set_option maxRecDepth 20000 in
theorem cx_PA_takeSemicolon {E : En} {h : Hp} {ip bt pa rw sc n : Nat} {F0 T P0 V : Nat → Int32} {q : Ps} {R : List (Nat × (Nat → Int32))} (hI : InOk h ip bt) (hP : PaOk h pa ip rw sc) (nd : (ip :: bt :: pa :: rw :: R.map Prod.fst).Nodup) (hn : n ≤ 500) (hq : TkO n q.1) : CR E m_PA_takeSemicolon [.ref pa] (wL h ((ip, rF F0 n q.1) :: (bt, T) :: (pa, rP P0 q.2) :: (rw, V) :: R)) (some (.int (bI (Y_semi T n q).1))) (wL h ((ip, rF F0 n (Y_semi T n q).2.1) :: (bt, T) :: (pa, rP P0 (Y_semi T n q).2.2) :: (rw, V) :: R)) := by
  refine ct_of rfl (by decide +kernel) (Nat.le_of_ble_eq_true rfl) ?_
  show G E m_PA_takeSemicolon 0 [(0, .ref pa)] [] (wL h ((ip, rF F0 n q.1) :: (bt, T) :: (pa, rP P0 q.2) :: (rw, V) :: R)) 0 0 _ noX
  obtain ⟨k_ip, r_ip_0, k_bt, l_bt⟩ := id hI
  obtain ⟨k_pa, r_pa_0, r_pa_1, r_pa_2, k_rw, l_rw⟩ := id hP
  refine g_aload_n (pc := 0) d_PA_takeSemicolon_0 rfl 0 rfl ?_
  refine g_getR (pc := 1) (ci := 1) (f := 0) (b := ip) rfl r_pa_0 d_PA_takeSemicolon_1 fl_PA_12 (by decide) k_pa ?_
  refine g_lgI0 (pc := 4) (ci := 2) (f := 2) rfl d_PA_takeSemicolon_4 fl_PA_61 (by decide) k_ip nd ?_
  refine g_top rF_2 ?_
  refine g_iconst (pc := 7) (v := 3) d_PA_takeSemicolon_7 (by decide) ?_
  refine g_icmp_eq (pc := 8) (tgt := 17) d_PA_takeSemicolon_8 (by decide) (fun c_8 => ?_) (fun c_8 => ?_)
  · skip
    have w1 : q.1.1 = 3 := nI_inj (by have := hq.1; omega) (by decide) c_8
    refine g_aload_n (pc := 17) d_PA_takeSemicolon_17 rfl 0 rfl ?_
    refine g_getR (pc := 18) (ci := 1) (f := 0) (b := ip) rfl r_pa_0 d_PA_takeSemicolon_18 fl_PA_12 (by decide) k_pa ?_
    refine g_cV0 (pc := 21) (ci := 2) (As := []) d_PA_takeSemicolon_21 rfl mv_IN_readNext st_PA_takeSemicolon_129 rfl rfl (by decide) rfl rfl (Nat.le_of_ble_eq_true rfl) k_ip (cy_IN_readNext hI nd hn hq) ?_
    refine g_iconst (pc := 24) (v := 1) d_PA_takeSemicolon_24 (by decide) ?_
    refine g_zret (pc := 25) d_PA_takeSemicolon_25 rfl (by first | rfl | exact nar_bI _) ?_
    unfold Y_semi
    rw [if_pos w1]
    exact ⟨rfl, rfl⟩
  · skip
    have w2 : ¬ q.1.1 = 3 := fun z => c_8 (by rw [z]; rfl)
    refine g_aload_n (pc := 11) d_PA_takeSemicolon_11 rfl 0 rfl ?_
    refine g_iconst (pc := 12) (v := 1) d_PA_takeSemicolon_12 (by decide) ?_
    refine g_cV1 (pc := 13) (ci := 1) (As := [.int _]) d_PA_takeSemicolon_13 rfl mv_PA_fail st_PA_takeSemicolon_72 rfl rfl (by decide) rfl rfl (Nat.le_of_ble_eq_true rfl) k_pa (cx_PA_fail hI hP nd hn hq) ?_
    refine g_zret (pc := 16) d_PA_takeSemicolon_16 rfl (by first | rfl | exact nar_bI _) ?_
    unfold Y_semi
    rw [if_neg w2]
    exact ⟨rfl, rfl⟩
set_option maxRecDepth 20000 in
theorem cx_PA_isNumberWithin {E : En} {h : Hp} {ip bt pa rw sc n : Nat} {F0 T P0 V : Nat → Int32} {q : Ps} {R : List (Nat × (Nat → Int32))} {lo hi : Int32} (hI : InOk h ip bt) (hP : PaOk h pa ip rw sc) (nd : (ip :: bt :: pa :: rw :: R.map Prod.fst).Nodup) (hn : n ≤ 500) (hq : TkO n q.1) : CR E m_PA_isNumberWithin [.ref pa, .int lo, .int hi] (wL h ((ip, rF F0 n q.1) :: (bt, T) :: (pa, rP P0 q.2) :: (rw, V) :: R)) (some (.int (bI (Y_in lo hi q).1))) (wL h ((ip, rF F0 n (Y_in lo hi q).2.1) :: (bt, T) :: (pa, rP P0 (Y_in lo hi q).2.2) :: (rw, V) :: R)) := by
  refine ct_of rfl (by decide +kernel) (Nat.le_of_ble_eq_true rfl) ?_
  show G E m_PA_isNumberWithin 0 [(0, .ref pa), (1, .int lo), (2, .int hi)] [] (wL h ((ip, rF F0 n q.1) :: (bt, T) :: (pa, rP P0 q.2) :: (rw, V) :: R)) 0 0 _ noX
  obtain ⟨k_ip, r_ip_0, k_bt, l_bt⟩ := id hI
  obtain ⟨k_pa, r_pa_0, r_pa_1, r_pa_2, k_rw, l_rw⟩ := id hP
  refine g_aload_n (pc := 0) d_PA_isNumberWithin_0 rfl 0 rfl ?_
  refine g_getR (pc := 1) (ci := 1) (f := 0) (b := ip) rfl r_pa_0 d_PA_isNumberWithin_1 fl_PA_12 (by decide) k_pa ?_
  refine g_lgI0 (pc := 4) (ci := 2) (f := 2) rfl d_PA_isNumberWithin_4 fl_PA_61 (by decide) k_ip nd ?_
  refine g_top rF_2 ?_
  refine g_iconst (pc := 7) (v := 2) d_PA_isNumberWithin_7 (by decide) ?_
  refine g_icmp_eq (pc := 8) (tgt := 17) d_PA_isNumberWithin_8 (by decide) (fun c_8 => ?_) (fun c_8 => ?_)
  · skip
    have w1 : q.1.1 = 2 := nI_inj (by have := hq.1; omega) (by decide) c_8
    refine g_aload_n (pc := 17) d_PA_isNumberWithin_17 rfl 0 rfl ?_
    refine g_getR (pc := 18) (ci := 1) (f := 0) (b := ip) rfl r_pa_0 d_PA_isNumberWithin_18 fl_PA_12 (by decide) k_pa ?_
    refine g_lgI0 (pc := 21) (ci := 2) (f := 5) rfl d_PA_isNumberWithin_21 fl_PA_116 (by decide) k_ip nd ?_
    refine g_top rF_5 ?_
    refine g_iload_n (pc := 24) d_PA_isNumberWithin_24 rfl 1 rfl ?_
    refine g_icmp_lt (pc := 25) (tgt := 39) d_PA_isNumberWithin_25 (by decide) (fun c_25 => ?_) (fun c_25 => ?_)
    · skip
      have w3 : ¬ (lo ≤ q.1.2.2.2 ∧ q.1.2.2.2 ≤ hi) := fun z => Int32.not_le.mpr c_25 z.1
      refine g_aload_n (pc := 39) d_PA_isNumberWithin_39 rfl 0 rfl ?_
      refine g_iconst (pc := 40) (v := 2) d_PA_isNumberWithin_40 (by decide) ?_
      refine g_cV1 (pc := 41) (ci := 1) (As := [.int _]) d_PA_isNumberWithin_41 rfl mv_PA_fail st_PA_isNumberWithin_72 rfl rfl (by decide) rfl rfl (Nat.le_of_ble_eq_true rfl) k_pa (cx_PA_fail hI hP nd hn hq) ?_
      refine g_if_eq (pc := 44) (tgt := 51) d_PA_isNumberWithin_44 (by decide) (fun c_44 => ?_) (fun c_44 => ?_)
      · skip
        refine g_iconst (pc := 51) (v := 0) d_PA_isNumberWithin_51 (by decide) ?_
        refine g_zret (pc := 52) d_PA_isNumberWithin_52 rfl (by first | rfl | exact nar_bI _) ?_
        first | (unfold Y_in; rw [if_pos w1, if_pos w3]; exact ⟨rfl, rfl⟩) | (unfold Y_in; rw [if_pos w1, if_neg w3]; exact ⟨rfl, rfl⟩)
      · exact absurd rfl c_44
    · skip
      refine g_aload_n (pc := 28) d_PA_isNumberWithin_28 rfl 0 rfl ?_
      refine g_getR (pc := 29) (ci := 1) (f := 0) (b := ip) rfl r_pa_0 d_PA_isNumberWithin_29 fl_PA_12 (by decide) k_pa ?_
      refine g_lgI0 (pc := 32) (ci := 2) (f := 5) rfl d_PA_isNumberWithin_32 fl_PA_116 (by decide) k_ip nd ?_
      refine g_top rF_5 ?_
      refine g_iload_n (pc := 35) d_PA_isNumberWithin_35 rfl 2 rfl ?_
      refine g_icmp_le (pc := 36) (tgt := 47) d_PA_isNumberWithin_36 (by decide) (fun c_36 => ?_) (fun c_36 => ?_)
      · skip
        have w3 : lo ≤ q.1.2.2.2 ∧ q.1.2.2.2 ≤ hi := ⟨Int32.not_lt.mp c_25, c_36⟩
        refine g_iconst (pc := 47) (v := 1) d_PA_isNumberWithin_47 (by decide) ?_
        refine g_goto (pc := 48) (tgt := 52) d_PA_isNumberWithin_48 (by decide) ?_
        refine g_zret (pc := 52) d_PA_isNumberWithin_52 rfl (by first | rfl | exact nar_bI _) ?_
        first | (unfold Y_in; rw [if_pos w1, if_pos w3]; exact ⟨rfl, rfl⟩) | (unfold Y_in; rw [if_pos w1, if_neg w3]; exact ⟨rfl, rfl⟩)
      · skip
        have w3 : ¬ (lo ≤ q.1.2.2.2 ∧ q.1.2.2.2 ≤ hi) := fun z => c_36 z.2
        refine g_aload_n (pc := 39) d_PA_isNumberWithin_39 rfl 0 rfl ?_
        refine g_iconst (pc := 40) (v := 2) d_PA_isNumberWithin_40 (by decide) ?_
        refine g_cV1 (pc := 41) (ci := 1) (As := [.int _]) d_PA_isNumberWithin_41 rfl mv_PA_fail st_PA_isNumberWithin_72 rfl rfl (by decide) rfl rfl (Nat.le_of_ble_eq_true rfl) k_pa (cx_PA_fail hI hP nd hn hq) ?_
        refine g_if_eq (pc := 44) (tgt := 51) d_PA_isNumberWithin_44 (by decide) (fun c_44 => ?_) (fun c_44 => ?_)
        · skip
          refine g_iconst (pc := 51) (v := 0) d_PA_isNumberWithin_51 (by decide) ?_
          refine g_zret (pc := 52) d_PA_isNumberWithin_52 rfl (by first | rfl | exact nar_bI _) ?_
          first | (unfold Y_in; rw [if_pos w1, if_pos w3]; exact ⟨rfl, rfl⟩) | (unfold Y_in; rw [if_pos w1, if_neg w3]; exact ⟨rfl, rfl⟩)
        · exact absurd rfl c_44
  · skip
    have w2 : ¬ q.1.1 = 2 := fun z => c_8 (by rw [z]; rfl)
    refine g_aload_n (pc := 11) d_PA_isNumberWithin_11 rfl 0 rfl ?_
    refine g_iconst (pc := 12) (v := 1) d_PA_isNumberWithin_12 (by decide) ?_
    refine g_cV1 (pc := 13) (ci := 1) (As := [.int _]) d_PA_isNumberWithin_13 rfl mv_PA_fail st_PA_isNumberWithin_72 rfl rfl (by decide) rfl rfl (Nat.le_of_ble_eq_true rfl) k_pa (cx_PA_fail hI hP nd hn hq) ?_
    refine g_zret (pc := 16) d_PA_isNumberWithin_16 rfl (by first | rfl | exact nar_bI _) ?_
    unfold Y_in
    rw [if_neg w2]
    exact ⟨rfl, rfl⟩
set_option maxRecDepth 20000 in
theorem cx_PA_takeNumber {E : En} {h : Hp} {ip bt pa rw sc n : Nat} {F0 T P0 V : Nat → Int32} {q : Ps} {R : List (Nat × (Nat → Int32))} {lo hi : Int32} (hI : InOk h ip bt) (hP : PaOk h pa ip rw sc) (nd : (ip :: bt :: pa :: rw :: R.map Prod.fst).Nodup) (hn : n ≤ 500) (hq : TkO n q.1) : CR E m_PA_takeNumber [.ref pa, .int lo, .int hi] (wL h ((ip, rF F0 n q.1) :: (bt, T) :: (pa, rP P0 q.2) :: (rw, V) :: R)) (some (.int (bI (Y_num T n lo hi q).1))) (wL h ((ip, rF F0 n (Y_num T n lo hi q).2.1) :: (bt, T) :: (pa, rP P0 (Y_num T n lo hi q).2.2) :: (rw, V) :: R)) := by
  refine ct_of rfl (by decide +kernel) (Nat.le_of_ble_eq_true rfl) ?_
  show G E m_PA_takeNumber 0 [(0, .ref pa), (1, .int lo), (2, .int hi)] [] (wL h ((ip, rF F0 n q.1) :: (bt, T) :: (pa, rP P0 q.2) :: (rw, V) :: R)) 0 0 _ noX
  obtain ⟨k_ip, r_ip_0, k_bt, l_bt⟩ := id hI
  obtain ⟨k_pa, r_pa_0, r_pa_1, r_pa_2, k_rw, l_rw⟩ := id hP
  refine g_aload_n (pc := 0) d_PA_takeNumber_0 rfl 0 rfl ?_
  refine g_iload_n (pc := 1) d_PA_takeNumber_1 rfl 1 rfl ?_
  refine g_iload_n (pc := 2) d_PA_takeNumber_2 rfl 2 rfl ?_
  refine g_cV1 (pc := 3) (ci := 1) (As := [.int _, .int _]) d_PA_takeNumber_3 rfl mv_PA_isNumberWithin st_PA_takeNumber_112 rfl rfl (by decide) rfl rfl (Nat.le_of_ble_eq_true rfl) k_pa (cx_PA_isNumberWithin hI hP nd hn hq) ?_
  refine g_if_ne (pc := 6) (tgt := 11) d_PA_takeNumber_6 (by decide) (fun c_6 => ?_) (fun c_6 => ?_)
  · skip
    have w1 := bI_n0 c_6
    rw [Y_in_t w1]
    refine g_aload_n (pc := 11) d_PA_takeNumber_11 rfl 0 rfl ?_
    refine g_aload_n (pc := 12) d_PA_takeNumber_12 rfl 0 rfl ?_
    refine g_getR (pc := 13) (ci := 1) (f := 0) (b := ip) rfl r_pa_0 d_PA_takeNumber_13 fl_PA_12 (by decide) k_pa ?_
    refine g_lgI0 (pc := 16) (ci := 2) (f := 5) rfl d_PA_takeNumber_16 fl_PA_116 (by decide) k_ip nd ?_
    refine g_top rF_5 ?_
    refine g_lpE2 (pc := 19) (ci := 1) (f := 3) (hg := rP_p3) rfl d_PA_takeNumber_19 fl_PA_149 (fun q hq => by cases hq; exact rfl) rfl rfl (by decide) k_pa nd ?_
    refine g_aload_n (pc := 22) d_PA_takeNumber_22 rfl 0 rfl ?_
    refine g_getR (pc := 23) (ci := 1) (f := 0) (b := ip) rfl r_pa_0 d_PA_takeNumber_23 fl_PA_12 (by decide) k_pa ?_
    refine g_cV0 (pc := 26) (ci := 2) (As := []) d_PA_takeNumber_26 rfl mv_IN_readNext st_PA_takeNumber_129 rfl rfl (by decide) rfl rfl (Nat.le_of_ble_eq_true rfl) k_ip (cy_IN_readNext hI nd hn hq) ?_
    refine g_iconst (pc := 29) (v := 1) d_PA_takeNumber_29 (by decide) ?_
    refine g_zret (pc := 30) d_PA_takeNumber_30 rfl (by first | rfl | exact nar_bI _) ?_
    unfold Y_num
    rw [if_pos w1]
    exact ⟨rfl, rfl⟩
  · skip
    have w2 : ¬ (Y_in lo hi q).1 = true := by rw [bI_0.mp c_6]; decide
    refine g_iconst (pc := 9) (v := 0) d_PA_takeNumber_9 (by decide) ?_
    refine g_zret (pc := 10) d_PA_takeNumber_10 rfl (by first | rfl | exact nar_bI _) ?_
    unfold Y_num
    rw [if_neg w2]
    exact ⟨rfl, rfl⟩
theorem lp_PA_takeRow {E : En} {h : Hp} {ip bt pa rw sc n : Nat} {F0 T P0 : Nat → Int32}  {R : List (Nat × (Nat → Int32))} {tw ti cnt : Nat} {l : List Int32} (hI : InOk h ip bt) (hP : PaOk h pa ip rw sc) (nd : (ip :: bt :: pa :: rw :: R.map Prod.fst).Nodup) (hn : n ≤ 500) (hw : rowT[tw]? = some (.int, ti, l)) (hc : cnt ≤ 8) (hl : l.length = 2 * cnt) : ∀ (d i : Nat) (q : Ps) (V : Nat → Int32), i ≤ cnt → TkO n q.1 → cnt - i < d → G E m_PA_takeRow 2 [(2, .int (nI i)), (0, .ref pa), (1, .ref (eS E ti))] [] (wL h ((ip, rF F0 n q.1) :: (bt, T) :: (pa, rP P0 q.2) :: (rw, V) :: R)) 0 0 (fun v1 h1 => v1 = some (.int (bI (Y_row T n l (cnt - i) i q V).1)) ∧ h1 = wL h ((ip, rF F0 n (Y_row T n l (cnt - i) i q V).2.1.1) :: (bt, T) :: (pa, rP P0 (Y_row T n l (cnt - i) i q V).2.1.2) :: (rw, (Y_row T n l (cnt - i) i q V).2.2) :: R)) noX := by
  obtain ⟨k_ip, r_ip_0, k_bt, l_bt⟩ := id hI
  obtain ⟨k_pa, r_pa_0, r_pa_1, r_pa_2, k_rw, l_rw⟩ := id hP
  intro d
  induction d with
  | zero => intros; omega
  | succ d ih =>
    intro i q V hi hq hd
    refine g_iload_n (pc := 2) d_PA_takeRow_2 rfl 0 rfl ?_
    refine g_bipush (pc := 3) (v := 8) d_PA_takeRow_3 (by decide) ?_
    refine g_icmp_ge (pc := 5) (tgt := 55) d_PA_takeRow_5 (by decide) (fun c_5 => ?_) (fun c_5 => ?_)
    · skip
      have e9 : cnt - i = 0 := by have := (nI_leI (a := 8) (b := i) (by omega) (by omega)).mp c_5; omega
      refine g_iconst (pc := 55) (v := 1) d_PA_takeRow_55 (by decide) ?_
      refine g_zret (pc := 56) d_PA_takeRow_56 rfl (by first | rfl | exact nar_bI _) ?_
      rw [e9, Y_row]
      exact ⟨rfl, rfl⟩
    · skip
      have e8 : i < 8 := Nat.lt_of_not_le (fun z => c_5 ((nI_leI (a := 8) (b := i) (by omega) (by omega)).mpr z))
      refine g_iconst (pc := 8) (v := 2) d_PA_takeRow_8 (by decide) ?_
      refine g_iload_n (pc := 9) d_PA_takeRow_9 rfl 0 rfl ?_
      refine g_imul (pc := 10) d_PA_takeRow_10 ?_
      show G E m_PA_takeRow 11 _ (.int (nI 2 * nI i) :: _) _ 0 0 _ noX
      refine g_top (nI_mul 2 i) ?_
      refine g_iconst (pc := 11) (v := 1) d_PA_takeRow_11 (by decide) ?_
      refine g_iadd (pc := 12) d_PA_takeRow_12 ?_
      show G E m_PA_takeRow 13 _ (.int (nI (2 * i) + nI 1) :: _) _ 0 0 _ noX
      refine g_top (nI_add (2 * i) 1) ?_
      refine g_aload_n (pc := 13) d_PA_takeRow_13 rfl 2 rfl ?_
      refine g_tabL (pc := 14) hw d_PA_takeRow_14 ?_
      refine g_icmp_ge (pc := 15) (tgt := 55) d_PA_takeRow_15 (by decide) (fun c_15 => ?_) (fun c_15 => ?_)
      · skip
        have e9 : cnt - i = 0 := by have := (nI_leI (a := l.length) (b := 2 * i + 1) (by omega) (by omega)).mp c_15; omega
        refine g_iconst (pc := 55) (v := 1) d_PA_takeRow_55 (by decide) ?_
        refine g_zret (pc := 56) d_PA_takeRow_56 rfl (by first | rfl | exact nar_bI _) ?_
        rw [e9, Y_row]
        exact ⟨rfl, rfl⟩
      · skip
        have e9 : i < cnt := Nat.lt_of_not_le (fun z => c_15 ((nI_leI (a := l.length) (b := 2 * i + 1) (by omega) (by omega)).mpr (by omega)))
        refine g_aload_n (pc := 18) d_PA_takeRow_18 rfl 1 rfl ?_
        refine g_aload_n (pc := 19) d_PA_takeRow_19 rfl 2 rfl ?_
        refine g_iconst (pc := 20) (v := 2) d_PA_takeRow_20 (by decide) ?_
        refine g_iload_n (pc := 21) d_PA_takeRow_21 rfl 0 rfl ?_
        refine g_imul (pc := 22) d_PA_takeRow_22 ?_
        show G E m_PA_takeRow 23 _ (.int (nI 2 * nI i) :: _) _ 0 0 _ noX
        refine g_top (nI_mul 2 i) ?_
        refine g_tabI (pc := 23) (j := 2 * i) hw (by omega) (by omega) d_PA_takeRow_23 ?_
        refine g_aload_n (pc := 24) d_PA_takeRow_24 rfl 2 rfl ?_
        refine g_iconst (pc := 25) (v := 2) d_PA_takeRow_25 (by decide) ?_
        refine g_iload_n (pc := 26) d_PA_takeRow_26 rfl 0 rfl ?_
        refine g_imul (pc := 27) d_PA_takeRow_27 ?_
        show G E m_PA_takeRow 28 _ (.int (nI 2 * nI i) :: _) _ 0 0 _ noX
        refine g_top (nI_mul 2 i) ?_
        refine g_iconst (pc := 28) (v := 1) d_PA_takeRow_28 (by decide) ?_
        refine g_iadd (pc := 29) d_PA_takeRow_29 ?_
        show G E m_PA_takeRow 30 _ (.int (nI (2 * i) + nI 1) :: _) _ 0 0 _ noX
        refine g_top (nI_add (2 * i) 1) ?_
        refine g_tabI (pc := 30) (j := 2 * i + 1) hw (by omega) (by omega) d_PA_takeRow_30 ?_
        refine g_cV1 (pc := 31) (ci := 1) (As := [.int _, .int _]) d_PA_takeRow_31 rfl mv_PA_takeNumber st_PA_takeRow_143 rfl rfl (by decide) rfl rfl (Nat.le_of_ble_eq_true rfl) k_pa (cx_PA_takeNumber hI hP nd hn hq) ?_
        refine g_if_ne (pc := 34) (tgt := 39) d_PA_takeRow_34 (by decide) (fun c_34 => ?_) (fun c_34 => ?_)
        · skip
          have w1 := bI_n0 c_34
          refine g_aload_n (pc := 39) d_PA_takeRow_39 rfl 1 rfl ?_
          refine g_getR (pc := 40) (ci := 1) (f := 2) (b := rw) rfl r_pa_2 d_PA_takeRow_40 fl_PA_25 (by decide) k_pa ?_
          refine g_iload_n (pc := 43) d_PA_takeRow_43 rfl 0 rfl ?_
          refine g_aload_n (pc := 44) d_PA_takeRow_44 rfl 1 rfl ?_
          refine g_lgI2 (pc := 45) (ci := 1) (f := 3) rfl d_PA_takeRow_45 fl_PA_149 (by decide) k_pa nd ?_
          refine g_top rP_3 ?_
          refine g_lis3 (pc := 48) (j := i) d_PA_takeRow_48 k_rw l_rw (by first | assumption | omega) (by decide) nd ?_
          obtain ⟨x_1, hx_1⟩ : ∃ y : Int32, y = (nI i) + 1 := ⟨_, rfl⟩
          refine g_iinc (pc := 49) (w := 0) (v := x_1) (lv' := [(2, .int x_1), (0, .ref pa), (1, .ref (eS E ti))]) d_PA_takeRow_49 rfl (by rw [hx_1]; rfl) (by decide) rfl ?_
          refine g_goto (pc := 52) (tgt := 2) d_PA_takeRow_52 (by decide) ?_
          have e8 : x_1 = nI (i + 1) := by rw [hx_1]; exact nI_1 _
          clear hx_1
          subst e8
          refine g_perm [0, 1, 2] rfl ?_
          have e7 : Y_row T n l (cnt - i) i q V = Y_row T n l (cnt - (i + 1)) (i + 1) (Y_num T n (l.getD (2 * i) 0) (l.getD (2 * i + 1) 0) q).2 (u1 V i (Y_num T n (l.getD (2 * i) 0) (l.getD (2 * i + 1) 0) q).2.2.1) := by rw [show cnt - i = (cnt - (i + 1)) + 1 by omega, Y_row, if_pos w1]
          rw [e7]
          exact ih (i + 1) (Y_num T n (l.getD (2 * i) 0) (l.getD (2 * i + 1) 0) q).2 _ (by omega) (TkO_num hq) (by omega)
        · skip
          have w2 : ¬ (Y_num T n (l.getD (2 * i) 0) (l.getD (2 * i + 1) 0) q).1 = true := by rw [bI_0.mp c_34]; decide
          refine g_iconst (pc := 37) (v := 0) d_PA_takeRow_37 (by decide) ?_
          refine g_zret (pc := 38) d_PA_takeRow_38 rfl (by first | rfl | exact nar_bI _) ?_
          rw [show cnt - i = (cnt - (i + 1)) + 1 by omega, Y_row, if_neg w2]
          exact ⟨rfl, rfl⟩
set_option maxRecDepth 20000 in
theorem cx_PA_takeRow {E : En} {h : Hp} {ip bt pa rw sc n : Nat} {F0 T P0 V : Nat → Int32} {q : Ps} {R : List (Nat × (Nat → Int32))} {tw ti cnt : Nat} {l : List Int32} (hI : InOk h ip bt) (hP : PaOk h pa ip rw sc) (nd : (ip :: bt :: pa :: rw :: R.map Prod.fst).Nodup) (hn : n ≤ 500) (hq : TkO n q.1) (hw : rowT[tw]? = some (.int, ti, l)) (hc : cnt ≤ 8) (hl : l.length = 2 * cnt) : CR E m_PA_takeRow [.ref pa, .ref (eS E ti)] (wL h ((ip, rF F0 n q.1) :: (bt, T) :: (pa, rP P0 q.2) :: (rw, V) :: R)) (some (.int (bI (Y_row T n l cnt 0 q V).1))) (wL h ((ip, rF F0 n (Y_row T n l cnt 0 q V).2.1.1) :: (bt, T) :: (pa, rP P0 (Y_row T n l cnt 0 q V).2.1.2) :: (rw, (Y_row T n l cnt 0 q V).2.2) :: R)) := by
  refine ct_of rfl (by decide +kernel) (Nat.le_of_ble_eq_true rfl) ?_
  show G E m_PA_takeRow 0 [(0, .ref pa), (1, .ref (eS E ti))] [] (wL h ((ip, rF F0 n q.1) :: (bt, T) :: (pa, rP P0 q.2) :: (rw, V) :: R)) 0 0 _ noX
  obtain ⟨k_ip, r_ip_0, k_bt, l_bt⟩ := id hI
  obtain ⟨k_pa, r_pa_0, r_pa_1, r_pa_2, k_rw, l_rw⟩ := id hP
  refine g_iconst (pc := 0) (v := 0) d_PA_takeRow_0 (by decide) ?_
  refine g_nameI (fun x_1 hx_1 => ?_)
  refine g_istore_n (pc := 1) (lv' := [(2, .int x_1), (0, .ref pa), (1, .ref (eS E ti))]) d_PA_takeRow_1 rfl (by decide) rfl ?_
  subst hx_1
  exact lp_PA_takeRow hI hP nd hn hw hc hl (cnt + 1) 0 q V (Nat.zero_le _) hq (by omega)
def Y_start (T : Nat → Int32) (n : Nat) (q : Ps) : Ps := (((X_tok T n 0).1, (X_tok T n 0).2.1, (X_tok T n 0).2.2, X_val T n 0 q.1.2.2.2), q.2.1, 0, -1)
set_option maxRecDepth 20000 in
theorem cx_PA_start {E : En} {h : Hp} {ip bt pa rw sc n : Nat} {F0 T P0 V : Nat → Int32} {q : Ps} {R : List (Nat × (Nat → Int32))} (hI : InOk h ip bt) (hP : PaOk h pa ip rw sc) (nd : (ip :: bt :: pa :: rw :: R.map Prod.fst).Nodup) (hn : n ≤ 500) : CR E m_PA_start [.ref pa] (wL h ((ip, rF F0 n q.1) :: (bt, T) :: (pa, rP P0 q.2) :: (rw, V) :: R)) (none) (wL h ((ip, rF F0 n (Y_start T n q).1) :: (bt, T) :: (pa, rP P0 (Y_start T n q).2) :: (rw, V) :: R)) := by
  refine ct_of rfl (by decide +kernel) (Nat.le_of_ble_eq_true rfl) ?_
  show G E m_PA_start 0 [(0, .ref pa)] [] (wL h ((ip, rF F0 n q.1) :: (bt, T) :: (pa, rP P0 q.2) :: (rw, V) :: R)) 0 0 _ noX
  obtain ⟨k_ip, r_ip_0, k_bt, l_bt⟩ := id hI
  obtain ⟨k_pa, r_pa_0, r_pa_1, r_pa_2, k_rw, l_rw⟩ := id hP
  refine g_aload_n (pc := 0) d_PA_start_0 rfl 0 rfl ?_
  refine g_iconst (pc := 1) (v := 0) d_PA_start_1 (by decide) ?_
  refine g_lpE2 (pc := 2) (ci := 1) (f := 4) (hg := rP_p4) rfl d_PA_start_2 fl_PA_75 (fun q hq => by cases hq; exact rfl) rfl rfl (by decide) k_pa nd ?_
  refine g_aload_n (pc := 5) d_PA_start_5 rfl 0 rfl ?_
  refine g_iconst (pc := 6) (v := (-1)) d_PA_start_6 (by decide) ?_
  refine g_lpE2 (pc := 7) (ci := 1) (f := 5) (hg := rP_p5) rfl d_PA_start_7 fl_PA_78 (fun q hq => by cases hq; exact rfl) rfl rfl (by decide) k_pa nd ?_
  refine g_aload_n (pc := 10) d_PA_start_10 rfl 0 rfl ?_
  refine g_getR (pc := 11) (ci := 1) (f := 0) (b := ip) rfl r_pa_0 d_PA_start_11 fl_PA_12 (by decide) k_pa ?_
  refine g_cV0 (pc := 14) (ci := 2) (As := []) d_PA_start_14 rfl mv_IN_readFirst st_PA_start_81 rfl rfl (by decide) rfl rfl (Nat.le_of_ble_eq_true rfl) k_ip (cx_IN_readFirst hI nd hn) ?_
  refine g_vret (pc := 17) d_PA_start_17 rfl ?_
  exact ⟨rfl, rfl⟩
