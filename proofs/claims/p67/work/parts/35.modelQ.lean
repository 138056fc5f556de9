def P_money (s : Nat → Nat → Int32) : Nat → Int32
  | 0 => 0
  | n + 1 => P_money s n + s n 15
