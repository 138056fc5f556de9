/-! THE FIRST SETUP -/
def T_0 : Nat → Int32 := X_put (fun _ => 0) 0 (strB.getD 0 []) 136
def Y_0 : Bp := Y_setup T_0 136 ((0, 0, 0, 0), 0, 0, 0) (fun _ => 0) ((fun _ => 0), (fun _ => 0), fun _ _ => 0)
def c_0 : List Int32 := [5, 10, 4, 10, 20, 1, 7, 3, 3, 0, 0, 0]
def w_0 : List Int32 := [100, 500, 2000]
def s_0 : List (List Int32) := [[100, 0, 0, 2, 250, 10, 20, 3, 0, 0, -1, 0, 1, 0, 0, 100], [50, 30, 0, 0, 1000, 4, 0, 0, 0, 0, -1, 0, 1, 0, 0, 50], [200, -20, 10, -1, 100, 30, 0, 5, 0, 0, -1, 0, 1, 0, 0, 200]]
set_option maxRecDepth 100000 in
theorem Y_0_t : Y_0.1 = true := by decide +kernel
