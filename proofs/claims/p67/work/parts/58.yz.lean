/-! SETUPS that are good give good bureaus; a script of n bytes has at most n / 4 commands -/
theorem nat_of {v : Int32} (h : 0 ≤ v.toInt) : v = nI v.toInt.toNat := by
  have h2 : v.toInt < 2147483648 := v.toInt_lt
  apply Int32.toInt_inj.mp
  rw [nI_toInt (by omega)]
  omega
