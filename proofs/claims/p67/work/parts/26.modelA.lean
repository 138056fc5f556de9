theorem M_clip_1 {o : Int32} (h : o ≤ 500) (h2 : -500 ≤ o) : M_clip o = o := by
  have a1 := (i_le _ _).mp h
  have a2 := (i_le _ _).mp h2
  have e1 : (500 : Int32).toInt = 500 := rfl
  have e2 : (-500 : Int32).toInt = -500 := rfl
  rw [e1] at a1; rw [e2] at a2
  have r : (if o < 500 then o else 500) = o := by
    split
    · rfl
    · next z =>
      refine Int32.toInt_inj.mp ?_
      have : ¬ o.toInt < 500 := fun q => z ((i_lt _ _).mpr q)
      rw [e1]
      omega
  unfold M_clip
  rw [r]
  split
  · rfl
  · next z =>
    refine Int32.toInt_inj.mp ?_
    have : ¬ -500 < o.toInt := fun q => z ((i_lt _ _).mpr q)
    rw [e2]
    omega
theorem M_clip_2 {o : Int32} (h : ¬ o ≤ 500) : M_clip o = 500 := by
  have a1 : ¬ o.toInt ≤ 500 := fun z => h ((i_le _ _).mpr z)
  have r : (if o < 500 then o else 500) = 500 := if_neg (fun q => by have := (i_lt _ _).mp q; have e1 : (500 : Int32).toInt = 500 := rfl; rw [e1] at this; omega)
  unfold M_clip
  rw [r]
  rfl
theorem M_clip_3 {o : Int32} (h : o ≤ 500) (h2 : ¬ -500 ≤ o) : M_clip o = -500 := by
  have a2 : ¬ (-500 : Int) ≤ o.toInt := fun z => h2 ((i_le _ _).mpr z)
  have e1 : (500 : Int32).toInt = 500 := rfl
  have e2 : (-500 : Int32).toInt = -500 := rfl
  have r : (if o < 500 then o else 500) = o := if_pos ((i_lt _ _).mpr (by rw [e1]; omega))
  unfold M_clip
  rw [r]
  exact if_neg (fun q => by have := (i_lt _ _).mp q; rw [e2] at this; omega)
def M_why (t : Int32) (z : Bool) : Int32 := (if t = 0 then 0 else 1) + (if z = true then 0 else 2)
