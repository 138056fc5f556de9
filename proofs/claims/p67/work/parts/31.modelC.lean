def Q_closed (nw sc ni i : Nat) : Nat → Nat → Bu → Int32
  | 0, _, _ => -1
  | n + 1, d, B => if B.2.2 i 12 = 0 then nI d else Q_closed nw sc ni i n (d + 1) (P_day nw sc ni (0, B)).2
def Q_purse (B : Bu) (nw sc ni i days : Nat) : Int32 := (P_pass nw sc ni days (0, B)).2.2.2 i 0
def Q_thumb (B : Bu) (i : Nat) (th : Int32) : Bu := sS B i (u1 (B.2.2 i) 6 th)
def Q_fined (s : Nat → Nat → Int32) : Nat → Nat
  | 0 => 0
  | n + 1 => if s (n + 1) 13 ≤ s (Q_fined s n) 13 then Q_fined s n else n + 1
theorem Q_fined_le (s : Nat → Nat → Int32) : ∀ n, Q_fined s n ≤ n
  | 0 => Nat.le_refl _
  | n + 1 => by
    rw [Q_fined]
    split
    · exact Nat.le_succ_of_le (Q_fined_le s n)
    · exact Nat.le_refl _
def Q_rank (s : Nat → Nat → Int32) (sc : Nat) (r : Int32) : Nat → Int32
  | 0 => -1
  | d + 1 => if nI (P_rank s (sc - (d + 1)) sc) = r then nI (sc - (d + 1)) else Q_rank s sc r d
def Q_coin (a : Int32) (s : Nat → Nat → Int32) : Nat → Int32
  | 0 => a
  | n + 1 => Q_coin a s n + (s n 14 - s n 0)
def Q_sum (c w : Nat → Int32) (s : Nat → Nat → Int32) (nw : Nat) : Nat → Int32
  | 0 => 0
  | n + 1 => Q_sum c w s nw n + M_tot c w (s n) nw
def Q_true (c w : Nat → Int32) (s : Nat → Nat → Int32) (nw : Nat) : Nat → Nat
  | 0 => 0
  | n + 1 => if M_tot c w (s n) nw = 0 then Q_true c w s nw n + 1 else Q_true c w s nw n
