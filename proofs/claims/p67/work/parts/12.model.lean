/-! WHAT THE BUREAU IS: a shop is its fields (purse 0, offset 1, slope 2, drift 3, portion 4, sales 5, thumb 6, caution 7, complaints 8, failures 9, latest 10, stamp 11, open 12, fines 13, gains 14, first purse 15), the bureau's numbers are base 0, rate 1, fee 2, validity 3, price 4, inspectors 5, seed 6, weights 7, shops 8, day 9, coins 10, visits 11 -/
def bI (b : Bool) : Int32 := if b = true then 1 else 0
def M_err (s : Nat → Int32) (g : Int32) : Int32 := s 1 + g * s 2 / 1000
def M_stamped (s : Nat → Int32) (d : Int32) : Bool := decide (d ≤ s 11)
def M_uses (s : Nat → Int32) (d : Int32) : Bool := decide (s 10 = -1) || decide (s 7 < d - s 10)
def M_false (s : Nat → Int32) (d : Int32) : Int32 := M_err s (s 4) + (if M_uses s d = true then s 6 else 0)
def M_clip (o : Int32) : Int32 := if -500 < (if o < 500 then o else 500) then (if o < 500 then o else 500) else -500
def M_drift (s : Nat → Int32) : Nat → Int32 := u1 s 1 (M_clip (s 1 + s 3))
def M_straight (s : Nat → Int32) : Nat → Int32 := u1 (u1 s 1 0) 2 0
def M_open (s : Nat → Int32) : Nat → Int32 := u1 (u1 s 12 1) 9 0
def M_canPay (s : Nat → Int32) : Bool := decide (s 12 ≠ 0) && decide (10 ≤ s 0)
def M_begin (s r : Nat → Int32) : Nat → Int32 := fun k => if k = 0 then r 0 else if k = 1 then r 1 - 500 else if k = 2 then r 2 - 50 else if k = 3 then r 3 - 5 else if k = 4 then r 4 else if k = 5 then r 5 else if k = 6 then r 6 else if k = 7 then r 7 else if k = 8 then 0 else if k = 9 then 0 else if k = 10 then -1 else if k = 11 then 0 else if k = 12 then 1 else if k = 13 then 0 else if k = 14 then 0 else if k = 15 then r 0 else s k
/-- the first n fields of another -/
def M_copy (n : Nat) (s r : Nat → Int32) : Nat → Int32 := fun k => if k < n then r k else s k
