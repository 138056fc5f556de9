/-! THE INPUT, ITS TOKENS -/
def X_let (c : Int32) : Bool := decide (97 ≤ c) && decide (c ≤ 122)
def X_dig (c : Int32) : Bool := decide (48 ≤ c) && decide (c ≤ 57)
def X_sp (c : Int32) : Bool := decide (c = 32)
def X_kind (c : Int32) : Nat := if X_let c = true then 1 else if X_dig c = true then 2 else if c = 59 then 3 else 4
def X_wh (p : Int32 → Bool) (T : Nat → Int32) : Nat → Nat → Nat
  | 0, e => e
  | d + 1, e => if p (T e) = true then X_wh p T d (e + 1) else e
theorem X_wh_le (p : Int32 → Bool) (T : Nat → Int32) : ∀ d e, e ≤ X_wh p T d e ∧ X_wh p T d e ≤ e + d
  | 0, e => ⟨Nat.le_refl _, Nat.le_refl _⟩
  | d + 1, e => by
    rw [X_wh]
    split
    · have := X_wh_le p T d (e + 1)
      omega
    · omega
theorem X_wh_t {p : Int32 → Bool} {T : Nat → Int32} {n e : Nat} (he : e < n) (hp : p (T e) = true) : X_wh p T (n - e) e = X_wh p T (n - (e + 1)) (e + 1) := by
  rw [show n - e = (n - (e + 1)) + 1 by omega, X_wh, if_pos hp]
theorem X_wh_f {p : Int32 → Bool} {T : Nat → Int32} {n e : Nat} (hp : e < n → ¬ p (T e) = true) : X_wh p T (n - e) e = e := by
  by_cases he : e < n
  · rw [show n - e = (n - (e + 1)) + 1 by omega, X_wh, if_neg (hp he)]
  · rw [show n - e = 0 by omega, X_wh]
def X_v1 (v c : Int32) : Int32 := if v < 1000000 then 10 * v + c - 48 else v
def X_num (T : Nat → Int32) : Nat → Nat → Int32 → Int32
  | 0, _, v => v
  | d + 1, e, v => if X_dig (T e) = true then X_num T d (e + 1) (X_v1 v (T e)) else v
theorem X_num_t {T : Nat → Int32} {n e : Nat} {v : Int32} (he : e < n) (hp : X_dig (T e) = true) : X_num T (n - e) e v = X_num T (n - (e + 1)) (e + 1) (X_v1 v (T e)) := by
  rw [show n - e = (n - (e + 1)) + 1 by omega, X_num, if_pos hp]
theorem X_num_f {T : Nat → Int32} {n e : Nat} {v : Int32} (hp : e < n → ¬ X_dig (T e) = true) : X_num T (n - e) e v = v := by
  by_cases he : e < n
  · rw [show n - e = (n - (e + 1)) + 1 by omega, X_num, if_neg (hp he)]
  · rw [show n - e = 0 by omega, X_num]
/-- the row of the Input's fields: length, kind, start, end, value -/
def TF (F0 : Nat → Int32) (n k s e : Nat) (v : Int32) : Nat → Int32 := u1 (u1 (u1 (u1 (u1 F0 1 (nI n)) 2 (nI k)) 3 (nI s)) 4 (nI e)) 5 v
section
variable {F0 : Nat → Int32} {n k s e x : Nat} {v w : Int32}
theorem TF_1 : TF F0 n k s e v 1 = nI n := rfl
theorem TF_2 : TF F0 n k s e v 2 = nI k := rfl
theorem TF_3 : TF F0 n k s e v 3 = nI s := rfl
theorem TF_4 : TF F0 n k s e v 4 = nI e := rfl
theorem TF_5 : TF F0 n k s e v 5 = v := rfl
theorem TF_p1 : u1 (TF F0 n k s e v) 1 (nI x) = TF F0 x k s e v := by
  unfold TF
  rw [u1_comm _ (a := 5) (b := 1) _ _ (by decide), u1_comm _ (a := 4) (b := 1) _ _ (by decide), u1_comm _ (a := 3) (b := 1) _ _ (by decide), u1_comm _ (a := 2) (b := 1) _ _ (by decide), u1_u1]
theorem TF_p2 : u1 (TF F0 n k s e v) 2 (nI x) = TF F0 n x s e v := by
  unfold TF
  rw [u1_comm _ (a := 5) (b := 2) _ _ (by decide), u1_comm _ (a := 4) (b := 2) _ _ (by decide), u1_comm _ (a := 3) (b := 2) _ _ (by decide), u1_u1]
theorem TF_p3 : u1 (TF F0 n k s e v) 3 (nI x) = TF F0 n k x e v := by
  unfold TF
  rw [u1_comm _ (a := 5) (b := 3) _ _ (by decide), u1_comm _ (a := 4) (b := 3) _ _ (by decide), u1_u1]
theorem TF_p4 : u1 (TF F0 n k s e v) 4 (nI x) = TF F0 n k s x v := by
  unfold TF
  rw [u1_comm _ (a := 5) (b := 4) _ _ (by decide), u1_u1]
theorem TF_p5 : u1 (TF F0 n k s e v) 5 w = TF F0 n k s e w := by
  unfold TF
  rw [u1_u1]
end
/-- the next token behind e: its kind, its first byte, the byte behind it -/
def X_tok (T : Nat → Int32) (n e : Nat) : Nat × Nat × Nat :=
  let s := X_wh X_sp T (n - e) e
  let k := if s < n then X_kind (T s) else 0
  (k, s, if k = 1 then X_wh X_let T (n - s) s else if k = 2 then X_wh X_dig T (n - s) s else if k = 0 then s else s + 1)
def X_val (T : Nat → Int32) (n e : Nat) (v : Int32) : Int32 :=
  let s := X_wh X_sp T (n - e) e
  if (if s < n then X_kind (T s) else 0) = 2 then X_num T (n - s) s 0 else v
def InOk (h : Hp) (ip bt : Nat) : Prop := hK h ip = 3 ∧ hR h ip 0 = some bt ∧ hK h bt = 21 ∧ hL h bt = 500
def X_b (v : Int32) (s : Int32) : Int32 := (v >>> (s &&& 31)).toInt8.toInt32
def X_four (T : Nat → Int32) (n : Nat) (v : Int32) : Nat → Int32 := u1 (u1 (u1 (u1 T n (X_b v 24)) (n + 1) (X_b v 16)) (n + 2) (X_b v 8)) (n + 3) v.toInt8.toInt32
theorem nar_b (x : Int32) : vp_nar .byte x.toInt8.toInt32 = x.toInt8.toInt32 := by
  show x.toInt8.toInt32.toInt8.toInt32 = x.toInt8.toInt32
  simp
theorem d_IN_putText_0 : decode (mC m_IN_putText) 0 = .ok (.iconst 0, 1) := by decide +kernel
theorem d_IN_putText_1 : decode (mC m_IN_putText) 1 = .ok (.istore_n 2, 1) := by decide +kernel
theorem d_IN_putText_2 : decode (mC m_IN_putText) 2 = .ok (.iload_n 2, 1) := by decide +kernel
theorem d_IN_putText_3 : decode (mC m_IN_putText) 3 = .ok (.aload_n 1, 1) := by decide +kernel
theorem d_IN_putText_4 : decode (mC m_IN_putText) 4 = .ok (.invokevirtual 23, 3) := by decide +kernel
theorem d_IN_putText_7 : decode (mC m_IN_putText) 7 = .ok (.if_icmp .ge 19, 3) := by decide +kernel
theorem d_IN_putText_10 : decode (mC m_IN_putText) 10 = .ok (.aload_n 0, 1) := by decide +kernel
theorem d_IN_putText_11 : decode (mC m_IN_putText) 11 = .ok (.aload_n 1, 1) := by decide +kernel
theorem d_IN_putText_12 : decode (mC m_IN_putText) 12 = .ok (.iload_n 2, 1) := by decide +kernel
theorem d_IN_putText_13 : decode (mC m_IN_putText) 13 = .ok (.invokevirtual 28, 3) := by decide +kernel
theorem d_IN_putText_16 : decode (mC m_IN_putText) 16 = .ok (.i2b, 1) := by decide +kernel
theorem d_IN_putText_17 : decode (mC m_IN_putText) 17 = .ok (.invokevirtual 19, 3) := by decide +kernel
theorem d_IN_putText_20 : decode (mC m_IN_putText) 20 = .ok (.iinc 2 1, 3) := by decide +kernel
theorem d_IN_putText_23 : decode (mC m_IN_putText) 23 = .ok (.goto (-21), 3) := by decide +kernel
theorem d_IN_putText_26 : decode (mC m_IN_putText) 26 = .ok (.return_, 1) := by decide +kernel
theorem d_IN_putByte_0 : decode (mC m_IN_putByte) 0 = .ok (.aload_n 0, 1) := by decide +kernel
theorem d_IN_putByte_1 : decode (mC m_IN_putByte) 1 = .ok (.getfield 15, 3) := by decide +kernel
theorem d_IN_putByte_4 : decode (mC m_IN_putByte) 4 = .ok (.sipush 500, 3) := by decide +kernel
theorem d_IN_putByte_7 : decode (mC m_IN_putByte) 7 = .ok (.if_icmp .ge 23, 3) := by decide +kernel
theorem d_IN_putByte_10 : decode (mC m_IN_putByte) 10 = .ok (.aload_n 0, 1) := by decide +kernel
theorem d_IN_putByte_11 : decode (mC m_IN_putByte) 11 = .ok (.getfield 9, 3) := by decide +kernel
theorem d_IN_putByte_14 : decode (mC m_IN_putByte) 14 = .ok (.aload_n 0, 1) := by decide +kernel
theorem d_IN_putByte_15 : decode (mC m_IN_putByte) 15 = .ok (.getfield 15, 3) := by decide +kernel
theorem d_IN_putByte_18 : decode (mC m_IN_putByte) 18 = .ok (.iload_n 1, 1) := by decide +kernel
theorem d_IN_putByte_19 : decode (mC m_IN_putByte) 19 = .ok (.bastore, 1) := by decide +kernel
theorem d_IN_putByte_20 : decode (mC m_IN_putByte) 20 = .ok (.aload_n 0, 1) := by decide +kernel
theorem d_IN_putByte_21 : decode (mC m_IN_putByte) 21 = .ok (.dup, 1) := by decide +kernel
theorem d_IN_putByte_22 : decode (mC m_IN_putByte) 22 = .ok (.getfield 15, 3) := by decide +kernel
theorem d_IN_putByte_25 : decode (mC m_IN_putByte) 25 = .ok (.iconst 1, 1) := by decide +kernel
theorem d_IN_putByte_26 : decode (mC m_IN_putByte) 26 = .ok (.iadd, 1) := by decide +kernel
theorem d_IN_putByte_27 : decode (mC m_IN_putByte) 27 = .ok (.putfield 15, 3) := by decide +kernel
theorem d_IN_putByte_30 : decode (mC m_IN_putByte) 30 = .ok (.return_, 1) := by decide +kernel
theorem d_IN_readFirst_0 : decode (mC m_IN_readFirst) 0 = .ok (.aload_n 0, 1) := by decide +kernel
theorem d_IN_readFirst_1 : decode (mC m_IN_readFirst) 1 = .ok (.iconst 0, 1) := by decide +kernel
theorem d_IN_readFirst_2 : decode (mC m_IN_readFirst) 2 = .ok (.putfield 32, 3) := by decide +kernel
theorem d_IN_readFirst_5 : decode (mC m_IN_readFirst) 5 = .ok (.aload_n 0, 1) := by decide +kernel
theorem d_IN_readFirst_6 : decode (mC m_IN_readFirst) 6 = .ok (.invokevirtual 35, 3) := by decide +kernel
theorem d_IN_readFirst_9 : decode (mC m_IN_readFirst) 9 = .ok (.return_, 1) := by decide +kernel
theorem d_IN_readNext_0 : decode (mC m_IN_readNext) 0 = .ok (.aload_n 0, 1) := by decide +kernel
theorem d_IN_readNext_1 : decode (mC m_IN_readNext) 1 = .ok (.getfield 32, 3) := by decide +kernel
theorem d_IN_readNext_4 : decode (mC m_IN_readNext) 4 = .ok (.aload_n 0, 1) := by decide +kernel
theorem d_IN_readNext_5 : decode (mC m_IN_readNext) 5 = .ok (.getfield 15, 3) := by decide +kernel
theorem d_IN_readNext_8 : decode (mC m_IN_readNext) 8 = .ok (.if_icmp .ge 30, 3) := by decide +kernel
theorem d_IN_readNext_11 : decode (mC m_IN_readNext) 11 = .ok (.aload_n 0, 1) := by decide +kernel
theorem d_IN_readNext_12 : decode (mC m_IN_readNext) 12 = .ok (.getfield 9, 3) := by decide +kernel
theorem d_IN_readNext_15 : decode (mC m_IN_readNext) 15 = .ok (.aload_n 0, 1) := by decide +kernel
theorem d_IN_readNext_16 : decode (mC m_IN_readNext) 16 = .ok (.getfield 32, 3) := by decide +kernel
theorem d_IN_readNext_19 : decode (mC m_IN_readNext) 19 = .ok (.baload, 1) := by decide +kernel
theorem d_IN_readNext_20 : decode (mC m_IN_readNext) 20 = .ok (.bipush 32, 2) := by decide +kernel
theorem d_IN_readNext_22 : decode (mC m_IN_readNext) 22 = .ok (.if_icmp .ne 16, 3) := by decide +kernel
theorem d_IN_readNext_25 : decode (mC m_IN_readNext) 25 = .ok (.aload_n 0, 1) := by decide +kernel
theorem d_IN_readNext_26 : decode (mC m_IN_readNext) 26 = .ok (.dup, 1) := by decide +kernel
theorem d_IN_readNext_27 : decode (mC m_IN_readNext) 27 = .ok (.getfield 32, 3) := by decide +kernel
theorem d_IN_readNext_30 : decode (mC m_IN_readNext) 30 = .ok (.iconst 1, 1) := by decide +kernel
theorem d_IN_readNext_31 : decode (mC m_IN_readNext) 31 = .ok (.iadd, 1) := by decide +kernel
theorem d_IN_readNext_32 : decode (mC m_IN_readNext) 32 = .ok (.putfield 32, 3) := by decide +kernel
theorem d_IN_readNext_35 : decode (mC m_IN_readNext) 35 = .ok (.goto (-35), 3) := by decide +kernel
theorem d_IN_readNext_38 : decode (mC m_IN_readNext) 38 = .ok (.aload_n 0, 1) := by decide +kernel
theorem d_IN_readNext_39 : decode (mC m_IN_readNext) 39 = .ok (.aload_n 0, 1) := by decide +kernel
theorem d_IN_readNext_40 : decode (mC m_IN_readNext) 40 = .ok (.getfield 32, 3) := by decide +kernel
theorem d_IN_readNext_43 : decode (mC m_IN_readNext) 43 = .ok (.putfield 38, 3) := by decide +kernel
theorem d_IN_readNext_46 : decode (mC m_IN_readNext) 46 = .ok (.aload_n 0, 1) := by decide +kernel
theorem d_IN_readNext_47 : decode (mC m_IN_readNext) 47 = .ok (.aload_n 0, 1) := by decide +kernel
theorem d_IN_readNext_48 : decode (mC m_IN_readNext) 48 = .ok (.getfield 32, 3) := by decide +kernel
theorem d_IN_readNext_51 : decode (mC m_IN_readNext) 51 = .ok (.aload_n 0, 1) := by decide +kernel
theorem d_IN_readNext_52 : decode (mC m_IN_readNext) 52 = .ok (.getfield 15, 3) := by decide +kernel
theorem d_IN_readNext_55 : decode (mC m_IN_readNext) 55 = .ok (.if_icmp .ge 19, 3) := by decide +kernel
theorem d_IN_readNext_58 : decode (mC m_IN_readNext) 58 = .ok (.aload_n 0, 1) := by decide +kernel
theorem d_IN_readNext_59 : decode (mC m_IN_readNext) 59 = .ok (.aload_n 0, 1) := by decide +kernel
theorem d_IN_readNext_60 : decode (mC m_IN_readNext) 60 = .ok (.getfield 9, 3) := by decide +kernel
theorem d_IN_readNext_63 : decode (mC m_IN_readNext) 63 = .ok (.aload_n 0, 1) := by decide +kernel
theorem d_IN_readNext_64 : decode (mC m_IN_readNext) 64 = .ok (.getfield 32, 3) := by decide +kernel
theorem d_IN_readNext_67 : decode (mC m_IN_readNext) 67 = .ok (.baload, 1) := by decide +kernel
theorem d_IN_readNext_68 : decode (mC m_IN_readNext) 68 = .ok (.invokevirtual 41, 3) := by decide +kernel
theorem d_IN_readNext_71 : decode (mC m_IN_readNext) 71 = .ok (.goto 4, 3) := by decide +kernel
theorem d_IN_readNext_74 : decode (mC m_IN_readNext) 74 = .ok (.iconst 0, 1) := by decide +kernel
theorem d_IN_readNext_75 : decode (mC m_IN_readNext) 75 = .ok (.putfield 45, 3) := by decide +kernel
theorem d_IN_readNext_78 : decode (mC m_IN_readNext) 78 = .ok (.aload_n 0, 1) := by decide +kernel
theorem d_IN_readNext_79 : decode (mC m_IN_readNext) 79 = .ok (.getfield 45, 3) := by decide +kernel
theorem d_IN_readNext_82 : decode (mC m_IN_readNext) 82 = .ok (.iconst 1, 1) := by decide +kernel
theorem d_IN_readNext_83 : decode (mC m_IN_readNext) 83 = .ok (.if_icmp .ne 44, 3) := by decide +kernel
theorem d_IN_readNext_86 : decode (mC m_IN_readNext) 86 = .ok (.aload_n 0, 1) := by decide +kernel
theorem d_IN_readNext_87 : decode (mC m_IN_readNext) 87 = .ok (.getfield 32, 3) := by decide +kernel
theorem d_IN_readNext_90 : decode (mC m_IN_readNext) 90 = .ok (.aload_n 0, 1) := by decide +kernel
theorem d_IN_readNext_91 : decode (mC m_IN_readNext) 91 = .ok (.getfield 15, 3) := by decide +kernel
theorem d_IN_readNext_94 : decode (mC m_IN_readNext) 94 = .ok (.if_icmp .ge 65, 3) := by decide +kernel
theorem d_IN_readNext_97 : decode (mC m_IN_readNext) 97 = .ok (.aload_n 0, 1) := by decide +kernel
theorem d_IN_readNext_98 : decode (mC m_IN_readNext) 98 = .ok (.aload_n 0, 1) := by decide +kernel
theorem d_IN_readNext_99 : decode (mC m_IN_readNext) 99 = .ok (.getfield 9, 3) := by decide +kernel
theorem d_IN_readNext_102 : decode (mC m_IN_readNext) 102 = .ok (.aload_n 0, 1) := by decide +kernel
theorem d_IN_readNext_103 : decode (mC m_IN_readNext) 103 = .ok (.getfield 32, 3) := by decide +kernel
theorem d_IN_readNext_106 : decode (mC m_IN_readNext) 106 = .ok (.baload, 1) := by decide +kernel
theorem d_IN_readNext_107 : decode (mC m_IN_readNext) 107 = .ok (.invokevirtual 41, 3) := by decide +kernel
theorem d_IN_readNext_110 : decode (mC m_IN_readNext) 110 = .ok (.iconst 1, 1) := by decide +kernel
theorem d_IN_readNext_111 : decode (mC m_IN_readNext) 111 = .ok (.if_icmp .ne 48, 3) := by decide +kernel
theorem d_IN_readNext_114 : decode (mC m_IN_readNext) 114 = .ok (.aload_n 0, 1) := by decide +kernel
theorem d_IN_readNext_115 : decode (mC m_IN_readNext) 115 = .ok (.dup, 1) := by decide +kernel
theorem d_IN_readNext_116 : decode (mC m_IN_readNext) 116 = .ok (.getfield 32, 3) := by decide +kernel
theorem d_IN_readNext_119 : decode (mC m_IN_readNext) 119 = .ok (.iconst 1, 1) := by decide +kernel
theorem d_IN_readNext_120 : decode (mC m_IN_readNext) 120 = .ok (.iadd, 1) := by decide +kernel
theorem d_IN_readNext_121 : decode (mC m_IN_readNext) 121 = .ok (.putfield 32, 3) := by decide +kernel
theorem d_IN_readNext_124 : decode (mC m_IN_readNext) 124 = .ok (.goto (-38), 3) := by decide +kernel
theorem d_IN_readNext_127 : decode (mC m_IN_readNext) 127 = .ok (.aload_n 0, 1) := by decide +kernel
theorem d_IN_readNext_128 : decode (mC m_IN_readNext) 128 = .ok (.getfield 45, 3) := by decide +kernel
theorem d_IN_readNext_131 : decode (mC m_IN_readNext) 131 = .ok (.iconst 2, 1) := by decide +kernel
theorem d_IN_readNext_132 : decode (mC m_IN_readNext) 132 = .ok (.if_icmp .ne 10, 3) := by decide +kernel
theorem d_IN_readNext_135 : decode (mC m_IN_readNext) 135 = .ok (.aload_n 0, 1) := by decide +kernel
theorem d_IN_readNext_136 : decode (mC m_IN_readNext) 136 = .ok (.invokevirtual 48, 3) := by decide +kernel
theorem d_IN_readNext_139 : decode (mC m_IN_readNext) 139 = .ok (.goto 20, 3) := by decide +kernel
theorem d_IN_readNext_142 : decode (mC m_IN_readNext) 142 = .ok (.aload_n 0, 1) := by decide +kernel
theorem d_IN_readNext_143 : decode (mC m_IN_readNext) 143 = .ok (.getfield 45, 3) := by decide +kernel
theorem d_IN_readNext_146 : decode (mC m_IN_readNext) 146 = .ok (.ifCond .eq 13, 3) := by decide +kernel
theorem d_IN_readNext_149 : decode (mC m_IN_readNext) 149 = .ok (.aload_n 0, 1) := by decide +kernel
theorem d_IN_readNext_150 : decode (mC m_IN_readNext) 150 = .ok (.dup, 1) := by decide +kernel
theorem d_IN_readNext_151 : decode (mC m_IN_readNext) 151 = .ok (.getfield 32, 3) := by decide +kernel
theorem d_IN_readNext_154 : decode (mC m_IN_readNext) 154 = .ok (.iconst 1, 1) := by decide +kernel
theorem d_IN_readNext_155 : decode (mC m_IN_readNext) 155 = .ok (.iadd, 1) := by decide +kernel
theorem d_IN_readNext_156 : decode (mC m_IN_readNext) 156 = .ok (.putfield 32, 3) := by decide +kernel
theorem d_IN_readNext_159 : decode (mC m_IN_readNext) 159 = .ok (.return_, 1) := by decide +kernel
theorem d_IN_kindOf_0 : decode (mC m_IN_kindOf) 0 = .ok (.iload_n 1, 1) := by decide +kernel
theorem d_IN_kindOf_1 : decode (mC m_IN_kindOf) 1 = .ok (.bipush 97, 2) := by decide +kernel
theorem d_IN_kindOf_3 : decode (mC m_IN_kindOf) 3 = .ok (.if_icmp .lt 11, 3) := by decide +kernel
theorem d_IN_kindOf_6 : decode (mC m_IN_kindOf) 6 = .ok (.iload_n 1, 1) := by decide +kernel
theorem d_IN_kindOf_7 : decode (mC m_IN_kindOf) 7 = .ok (.bipush 122, 2) := by decide +kernel
theorem d_IN_kindOf_9 : decode (mC m_IN_kindOf) 9 = .ok (.if_icmp .gt 5, 3) := by decide +kernel
theorem d_IN_kindOf_12 : decode (mC m_IN_kindOf) 12 = .ok (.iconst 1, 1) := by decide +kernel
theorem d_IN_kindOf_13 : decode (mC m_IN_kindOf) 13 = .ok (.ireturn, 1) := by decide +kernel
theorem d_IN_kindOf_14 : decode (mC m_IN_kindOf) 14 = .ok (.iload_n 1, 1) := by decide +kernel
theorem d_IN_kindOf_15 : decode (mC m_IN_kindOf) 15 = .ok (.bipush 48, 2) := by decide +kernel
theorem d_IN_kindOf_17 : decode (mC m_IN_kindOf) 17 = .ok (.if_icmp .lt 11, 3) := by decide +kernel
theorem d_IN_kindOf_20 : decode (mC m_IN_kindOf) 20 = .ok (.iload_n 1, 1) := by decide +kernel
theorem d_IN_kindOf_21 : decode (mC m_IN_kindOf) 21 = .ok (.bipush 57, 2) := by decide +kernel
theorem d_IN_kindOf_23 : decode (mC m_IN_kindOf) 23 = .ok (.if_icmp .gt 5, 3) := by decide +kernel
theorem d_IN_kindOf_26 : decode (mC m_IN_kindOf) 26 = .ok (.iconst 2, 1) := by decide +kernel
theorem d_IN_kindOf_27 : decode (mC m_IN_kindOf) 27 = .ok (.ireturn, 1) := by decide +kernel
theorem d_IN_kindOf_28 : decode (mC m_IN_kindOf) 28 = .ok (.iload_n 1, 1) := by decide +kernel
theorem d_IN_kindOf_29 : decode (mC m_IN_kindOf) 29 = .ok (.bipush 59, 2) := by decide +kernel
theorem d_IN_kindOf_31 : decode (mC m_IN_kindOf) 31 = .ok (.if_icmp .ne 7, 3) := by decide +kernel
theorem d_IN_kindOf_34 : decode (mC m_IN_kindOf) 34 = .ok (.iconst 3, 1) := by decide +kernel
theorem d_IN_kindOf_35 : decode (mC m_IN_kindOf) 35 = .ok (.goto 4, 3) := by decide +kernel
theorem d_IN_kindOf_38 : decode (mC m_IN_kindOf) 38 = .ok (.iconst 4, 1) := by decide +kernel
theorem d_IN_kindOf_39 : decode (mC m_IN_kindOf) 39 = .ok (.ireturn, 1) := by decide +kernel
theorem d_IN_readNumber_0 : decode (mC m_IN_readNumber) 0 = .ok (.aload_n 0, 1) := by decide +kernel
theorem d_IN_readNumber_1 : decode (mC m_IN_readNumber) 1 = .ok (.iconst 0, 1) := by decide +kernel
theorem d_IN_readNumber_2 : decode (mC m_IN_readNumber) 2 = .ok (.putfield 51, 3) := by decide +kernel
theorem d_IN_readNumber_5 : decode (mC m_IN_readNumber) 5 = .ok (.aload_n 0, 1) := by decide +kernel
theorem d_IN_readNumber_6 : decode (mC m_IN_readNumber) 6 = .ok (.getfield 32, 3) := by decide +kernel
theorem d_IN_readNumber_9 : decode (mC m_IN_readNumber) 9 = .ok (.aload_n 0, 1) := by decide +kernel
theorem d_IN_readNumber_10 : decode (mC m_IN_readNumber) 10 = .ok (.getfield 15, 3) := by decide +kernel
theorem d_IN_readNumber_13 : decode (mC m_IN_readNumber) 13 = .ok (.if_icmp .ge 77, 3) := by decide +kernel
theorem d_IN_readNumber_16 : decode (mC m_IN_readNumber) 16 = .ok (.aload_n 0, 1) := by decide +kernel
theorem d_IN_readNumber_17 : decode (mC m_IN_readNumber) 17 = .ok (.getfield 9, 3) := by decide +kernel
theorem d_IN_readNumber_20 : decode (mC m_IN_readNumber) 20 = .ok (.aload_n 0, 1) := by decide +kernel
theorem d_IN_readNumber_21 : decode (mC m_IN_readNumber) 21 = .ok (.getfield 32, 3) := by decide +kernel
theorem d_IN_readNumber_24 : decode (mC m_IN_readNumber) 24 = .ok (.baload, 1) := by decide +kernel
theorem d_IN_readNumber_25 : decode (mC m_IN_readNumber) 25 = .ok (.bipush 48, 2) := by decide +kernel
theorem d_IN_readNumber_27 : decode (mC m_IN_readNumber) 27 = .ok (.if_icmp .lt 63, 3) := by decide +kernel
theorem d_IN_readNumber_30 : decode (mC m_IN_readNumber) 30 = .ok (.aload_n 0, 1) := by decide +kernel
theorem d_IN_readNumber_31 : decode (mC m_IN_readNumber) 31 = .ok (.getfield 9, 3) := by decide +kernel
theorem d_IN_readNumber_34 : decode (mC m_IN_readNumber) 34 = .ok (.aload_n 0, 1) := by decide +kernel
theorem d_IN_readNumber_35 : decode (mC m_IN_readNumber) 35 = .ok (.getfield 32, 3) := by decide +kernel
theorem d_IN_readNumber_38 : decode (mC m_IN_readNumber) 38 = .ok (.baload, 1) := by decide +kernel
theorem d_IN_readNumber_39 : decode (mC m_IN_readNumber) 39 = .ok (.bipush 57, 2) := by decide +kernel
theorem d_IN_readNumber_41 : decode (mC m_IN_readNumber) 41 = .ok (.if_icmp .gt 49, 3) := by decide +kernel
theorem d_IN_readNumber_44 : decode (mC m_IN_readNumber) 44 = .ok (.aload_n 0, 1) := by decide +kernel
theorem d_IN_readNumber_45 : decode (mC m_IN_readNumber) 45 = .ok (.getfield 51, 3) := by decide +kernel
theorem d_IN_readNumber_48 : decode (mC m_IN_readNumber) 48 = .ok (.ldc 54, 2) := by decide +kernel
theorem d_IN_readNumber_50 : decode (mC m_IN_readNumber) 50 = .ok (.if_icmp .ge 27, 3) := by decide +kernel
theorem d_IN_readNumber_53 : decode (mC m_IN_readNumber) 53 = .ok (.aload_n 0, 1) := by decide +kernel
theorem d_IN_readNumber_54 : decode (mC m_IN_readNumber) 54 = .ok (.bipush 10, 2) := by decide +kernel
theorem d_IN_readNumber_56 : decode (mC m_IN_readNumber) 56 = .ok (.aload_n 0, 1) := by decide +kernel
theorem d_IN_readNumber_57 : decode (mC m_IN_readNumber) 57 = .ok (.getfield 51, 3) := by decide +kernel
theorem d_IN_readNumber_60 : decode (mC m_IN_readNumber) 60 = .ok (.imul, 1) := by decide +kernel
theorem d_IN_readNumber_61 : decode (mC m_IN_readNumber) 61 = .ok (.aload_n 0, 1) := by decide +kernel
theorem d_IN_readNumber_62 : decode (mC m_IN_readNumber) 62 = .ok (.getfield 9, 3) := by decide +kernel
theorem d_IN_readNumber_65 : decode (mC m_IN_readNumber) 65 = .ok (.aload_n 0, 1) := by decide +kernel
theorem d_IN_readNumber_66 : decode (mC m_IN_readNumber) 66 = .ok (.getfield 32, 3) := by decide +kernel
theorem d_IN_readNumber_69 : decode (mC m_IN_readNumber) 69 = .ok (.baload, 1) := by decide +kernel
theorem d_IN_readNumber_70 : decode (mC m_IN_readNumber) 70 = .ok (.iadd, 1) := by decide +kernel
theorem d_IN_readNumber_71 : decode (mC m_IN_readNumber) 71 = .ok (.bipush 48, 2) := by decide +kernel
theorem d_IN_readNumber_73 : decode (mC m_IN_readNumber) 73 = .ok (.isub, 1) := by decide +kernel
theorem d_IN_readNumber_74 : decode (mC m_IN_readNumber) 74 = .ok (.putfield 51, 3) := by decide +kernel
theorem d_IN_readNumber_77 : decode (mC m_IN_readNumber) 77 = .ok (.aload_n 0, 1) := by decide +kernel
theorem d_IN_readNumber_78 : decode (mC m_IN_readNumber) 78 = .ok (.dup, 1) := by decide +kernel
theorem d_IN_readNumber_79 : decode (mC m_IN_readNumber) 79 = .ok (.getfield 32, 3) := by decide +kernel
theorem d_IN_readNumber_82 : decode (mC m_IN_readNumber) 82 = .ok (.iconst 1, 1) := by decide +kernel
theorem d_IN_readNumber_83 : decode (mC m_IN_readNumber) 83 = .ok (.iadd, 1) := by decide +kernel
theorem d_IN_readNumber_84 : decode (mC m_IN_readNumber) 84 = .ok (.putfield 32, 3) := by decide +kernel
theorem d_IN_readNumber_87 : decode (mC m_IN_readNumber) 87 = .ok (.goto (-82), 3) := by decide +kernel
theorem d_IN_readNumber_90 : decode (mC m_IN_readNumber) 90 = .ok (.return_, 1) := by decide +kernel
theorem d_IN_isWord_0 : decode (mC m_IN_isWord) 0 = .ok (.aload_n 0, 1) := by decide +kernel
theorem d_IN_isWord_1 : decode (mC m_IN_isWord) 1 = .ok (.getfield 45, 3) := by decide +kernel
theorem d_IN_isWord_4 : decode (mC m_IN_isWord) 4 = .ok (.iconst 1, 1) := by decide +kernel
theorem d_IN_isWord_5 : decode (mC m_IN_isWord) 5 = .ok (.if_icmp .ne 19, 3) := by decide +kernel
theorem d_IN_isWord_8 : decode (mC m_IN_isWord) 8 = .ok (.aload_n 0, 1) := by decide +kernel
theorem d_IN_isWord_9 : decode (mC m_IN_isWord) 9 = .ok (.getfield 32, 3) := by decide +kernel
theorem d_IN_isWord_12 : decode (mC m_IN_isWord) 12 = .ok (.aload_n 0, 1) := by decide +kernel
theorem d_IN_isWord_13 : decode (mC m_IN_isWord) 13 = .ok (.getfield 38, 3) := by decide +kernel
theorem d_IN_isWord_16 : decode (mC m_IN_isWord) 16 = .ok (.isub, 1) := by decide +kernel
theorem d_IN_isWord_17 : decode (mC m_IN_isWord) 17 = .ok (.aload_n 1, 1) := by decide +kernel
theorem d_IN_isWord_18 : decode (mC m_IN_isWord) 18 = .ok (.invokevirtual 23, 3) := by decide +kernel
theorem d_IN_isWord_21 : decode (mC m_IN_isWord) 21 = .ok (.if_icmp .eq 5, 3) := by decide +kernel
theorem d_IN_isWord_24 : decode (mC m_IN_isWord) 24 = .ok (.iconst 0, 1) := by decide +kernel
theorem d_IN_isWord_25 : decode (mC m_IN_isWord) 25 = .ok (.ireturn, 1) := by decide +kernel
theorem d_IN_isWord_26 : decode (mC m_IN_isWord) 26 = .ok (.iconst 0, 1) := by decide +kernel
theorem d_IN_isWord_27 : decode (mC m_IN_isWord) 27 = .ok (.istore_n 2, 1) := by decide +kernel
theorem d_IN_isWord_28 : decode (mC m_IN_isWord) 28 = .ok (.iload_n 2, 1) := by decide +kernel
theorem d_IN_isWord_29 : decode (mC m_IN_isWord) 29 = .ok (.aload_n 1, 1) := by decide +kernel
theorem d_IN_isWord_30 : decode (mC m_IN_isWord) 30 = .ok (.invokevirtual 23, 3) := by decide +kernel
theorem d_IN_isWord_33 : decode (mC m_IN_isWord) 33 = .ok (.if_icmp .ge 30, 3) := by decide +kernel
theorem d_IN_isWord_36 : decode (mC m_IN_isWord) 36 = .ok (.aload_n 0, 1) := by decide +kernel
theorem d_IN_isWord_37 : decode (mC m_IN_isWord) 37 = .ok (.getfield 9, 3) := by decide +kernel
theorem d_IN_isWord_40 : decode (mC m_IN_isWord) 40 = .ok (.aload_n 0, 1) := by decide +kernel
theorem d_IN_isWord_41 : decode (mC m_IN_isWord) 41 = .ok (.getfield 38, 3) := by decide +kernel
theorem d_IN_isWord_44 : decode (mC m_IN_isWord) 44 = .ok (.iload_n 2, 1) := by decide +kernel
theorem d_IN_isWord_45 : decode (mC m_IN_isWord) 45 = .ok (.iadd, 1) := by decide +kernel
theorem d_IN_isWord_46 : decode (mC m_IN_isWord) 46 = .ok (.baload, 1) := by decide +kernel
theorem d_IN_isWord_47 : decode (mC m_IN_isWord) 47 = .ok (.aload_n 1, 1) := by decide +kernel
theorem d_IN_isWord_48 : decode (mC m_IN_isWord) 48 = .ok (.iload_n 2, 1) := by decide +kernel
theorem d_IN_isWord_49 : decode (mC m_IN_isWord) 49 = .ok (.invokevirtual 28, 3) := by decide +kernel
theorem d_IN_isWord_52 : decode (mC m_IN_isWord) 52 = .ok (.if_icmp .eq 5, 3) := by decide +kernel
theorem d_IN_isWord_55 : decode (mC m_IN_isWord) 55 = .ok (.iconst 0, 1) := by decide +kernel
theorem d_IN_isWord_56 : decode (mC m_IN_isWord) 56 = .ok (.ireturn, 1) := by decide +kernel
theorem d_IN_isWord_57 : decode (mC m_IN_isWord) 57 = .ok (.iinc 2 1, 3) := by decide +kernel
theorem d_IN_isWord_60 : decode (mC m_IN_isWord) 60 = .ok (.goto (-32), 3) := by decide +kernel
theorem d_IN_isWord_63 : decode (mC m_IN_isWord) 63 = .ok (.iconst 1, 1) := by decide +kernel
theorem d_IN_isWord_64 : decode (mC m_IN_isWord) 64 = .ok (.ireturn, 1) := by decide +kernel
theorem d_IN_putFour_0 : decode (mC m_IN_putFour) 0 = .ok (.aload_n 0, 1) := by decide +kernel
theorem d_IN_putFour_1 : decode (mC m_IN_putFour) 1 = .ok (.iload_n 1, 1) := by decide +kernel
theorem d_IN_putFour_2 : decode (mC m_IN_putFour) 2 = .ok (.bipush 24, 2) := by decide +kernel
theorem d_IN_putFour_4 : decode (mC m_IN_putFour) 4 = .ok (.ishr, 1) := by decide +kernel
theorem d_IN_putFour_5 : decode (mC m_IN_putFour) 5 = .ok (.i2b, 1) := by decide +kernel
theorem d_IN_putFour_6 : decode (mC m_IN_putFour) 6 = .ok (.invokevirtual 19, 3) := by decide +kernel
theorem d_IN_putFour_9 : decode (mC m_IN_putFour) 9 = .ok (.aload_n 0, 1) := by decide +kernel
theorem d_IN_putFour_10 : decode (mC m_IN_putFour) 10 = .ok (.iload_n 1, 1) := by decide +kernel
theorem d_IN_putFour_11 : decode (mC m_IN_putFour) 11 = .ok (.bipush 16, 2) := by decide +kernel
theorem d_IN_putFour_13 : decode (mC m_IN_putFour) 13 = .ok (.ishr, 1) := by decide +kernel
theorem d_IN_putFour_14 : decode (mC m_IN_putFour) 14 = .ok (.i2b, 1) := by decide +kernel
theorem d_IN_putFour_15 : decode (mC m_IN_putFour) 15 = .ok (.invokevirtual 19, 3) := by decide +kernel
theorem d_IN_putFour_18 : decode (mC m_IN_putFour) 18 = .ok (.aload_n 0, 1) := by decide +kernel
theorem d_IN_putFour_19 : decode (mC m_IN_putFour) 19 = .ok (.iload_n 1, 1) := by decide +kernel
theorem d_IN_putFour_20 : decode (mC m_IN_putFour) 20 = .ok (.bipush 8, 2) := by decide +kernel
theorem d_IN_putFour_22 : decode (mC m_IN_putFour) 22 = .ok (.ishr, 1) := by decide +kernel
theorem d_IN_putFour_23 : decode (mC m_IN_putFour) 23 = .ok (.i2b, 1) := by decide +kernel
theorem d_IN_putFour_24 : decode (mC m_IN_putFour) 24 = .ok (.invokevirtual 19, 3) := by decide +kernel
theorem d_IN_putFour_27 : decode (mC m_IN_putFour) 27 = .ok (.aload_n 0, 1) := by decide +kernel
theorem d_IN_putFour_28 : decode (mC m_IN_putFour) 28 = .ok (.iload_n 1, 1) := by decide +kernel
theorem d_IN_putFour_29 : decode (mC m_IN_putFour) 29 = .ok (.i2b, 1) := by decide +kernel
theorem d_IN_putFour_30 : decode (mC m_IN_putFour) 30 = .ok (.invokevirtual 19, 3) := by decide +kernel
theorem d_IN_putFour_33 : decode (mC m_IN_putFour) 33 = .ok (.return_, 1) := by decide +kernel
set_option maxRecDepth 20000 in
theorem ct_IN_kindOf {E : En} {h : Hp} {a : Nat} {c : Int32}  : CR E m_IN_kindOf [.ref a, .int c] h (some (.int (nI (X_kind c)))) (h) := by
  refine ct_of rfl (by decide +kernel) (Nat.le_of_ble_eq_true rfl) ?_
  show G E m_IN_kindOf 0 [(0, .ref a), (1, .int c)] [] h 0 0 _ noX
  refine g_iload_n (pc := 0) d_IN_kindOf_0 rfl 1 rfl ?_
  refine g_bipush (pc := 1) (v := 97) d_IN_kindOf_1 (by decide) ?_
  refine g_icmp_lt (pc := 3) (tgt := 14) d_IN_kindOf_3 (by decide) (fun c_3 => ?_) (fun c_3 => ?_)
  · skip
    refine g_iload_n (pc := 14) d_IN_kindOf_14 rfl 1 rfl ?_
    refine g_bipush (pc := 15) (v := 48) d_IN_kindOf_15 (by decide) ?_
    refine g_icmp_lt (pc := 17) (tgt := 28) d_IN_kindOf_17 (by decide) (fun c_17 => ?_) (fun c_17 => ?_)
    · skip
      refine g_iload_n (pc := 28) d_IN_kindOf_28 rfl 1 rfl ?_
      refine g_bipush (pc := 29) (v := 59) d_IN_kindOf_29 (by decide) ?_
      refine g_icmp_ne (pc := 31) (tgt := 38) d_IN_kindOf_31 (by decide) (fun c_31 => ?_) (fun c_31 => ?_)
      · skip
        refine g_iconst (pc := 38) (v := 4) d_IN_kindOf_38 (by decide) ?_
        refine g_iret (pc := 39) d_IN_kindOf_39 rfl ?_
        refine ⟨congrArg (fun q => some (Value.int q)) ?_, rfl⟩
        unfold X_kind X_let X_dig
        simp only [← Int32.not_lt, Bool.and_eq_true, decide_eq_true_eq]
        simp only [*, not_true_eq_false, not_false_eq_true, and_self, and_true, true_and, false_and, and_false, if_true, if_false]
        try rfl
      · skip
        refine g_iconst (pc := 34) (v := 3) d_IN_kindOf_34 (by decide) ?_
        refine g_goto (pc := 35) (tgt := 39) d_IN_kindOf_35 (by decide) ?_
        refine g_iret (pc := 39) d_IN_kindOf_39 rfl ?_
        refine ⟨congrArg (fun q => some (Value.int q)) ?_, rfl⟩
        unfold X_kind X_let X_dig
        simp only [← Int32.not_lt, Bool.and_eq_true, decide_eq_true_eq]
        simp only [*, not_true_eq_false, not_false_eq_true, and_self, and_true, true_and, false_and, and_false, if_true, if_false]
        try rfl
    · skip
      refine g_iload_n (pc := 20) d_IN_kindOf_20 rfl 1 rfl ?_
      refine g_bipush (pc := 21) (v := 57) d_IN_kindOf_21 (by decide) ?_
      refine g_icmp_gt (pc := 23) (tgt := 28) d_IN_kindOf_23 (by decide) (fun c_23 => ?_) (fun c_23 => ?_)
      · skip
        refine g_iload_n (pc := 28) d_IN_kindOf_28 rfl 1 rfl ?_
        refine g_bipush (pc := 29) (v := 59) d_IN_kindOf_29 (by decide) ?_
        refine g_icmp_ne (pc := 31) (tgt := 38) d_IN_kindOf_31 (by decide) (fun c_31 => ?_) (fun c_31 => ?_)
        · skip
          refine g_iconst (pc := 38) (v := 4) d_IN_kindOf_38 (by decide) ?_
          refine g_iret (pc := 39) d_IN_kindOf_39 rfl ?_
          refine ⟨congrArg (fun q => some (Value.int q)) ?_, rfl⟩
          unfold X_kind X_let X_dig
          simp only [← Int32.not_lt, Bool.and_eq_true, decide_eq_true_eq]
          simp only [*, not_true_eq_false, not_false_eq_true, and_self, and_true, true_and, false_and, and_false, if_true, if_false]
          try rfl
        · skip
          refine g_iconst (pc := 34) (v := 3) d_IN_kindOf_34 (by decide) ?_
          refine g_goto (pc := 35) (tgt := 39) d_IN_kindOf_35 (by decide) ?_
          refine g_iret (pc := 39) d_IN_kindOf_39 rfl ?_
          refine ⟨congrArg (fun q => some (Value.int q)) ?_, rfl⟩
          unfold X_kind X_let X_dig
          simp only [← Int32.not_lt, Bool.and_eq_true, decide_eq_true_eq]
          simp only [*, not_true_eq_false, not_false_eq_true, and_self, and_true, true_and, false_and, and_false, if_true, if_false]
          try rfl
      · skip
        refine g_iconst (pc := 26) (v := 2) d_IN_kindOf_26 (by decide) ?_
        refine g_iret (pc := 27) d_IN_kindOf_27 rfl ?_
        refine ⟨congrArg (fun q => some (Value.int q)) ?_, rfl⟩
        unfold X_kind X_let X_dig
        simp only [← Int32.not_lt, Bool.and_eq_true, decide_eq_true_eq]
        simp only [*, not_true_eq_false, not_false_eq_true, and_self, and_true, true_and, false_and, and_false, if_true, if_false]
        try rfl
  · skip
    refine g_iload_n (pc := 6) d_IN_kindOf_6 rfl 1 rfl ?_
    refine g_bipush (pc := 7) (v := 122) d_IN_kindOf_7 (by decide) ?_
    refine g_icmp_gt (pc := 9) (tgt := 14) d_IN_kindOf_9 (by decide) (fun c_9 => ?_) (fun c_9 => ?_)
    · skip
      refine g_iload_n (pc := 14) d_IN_kindOf_14 rfl 1 rfl ?_
      refine g_bipush (pc := 15) (v := 48) d_IN_kindOf_15 (by decide) ?_
      refine g_icmp_lt (pc := 17) (tgt := 28) d_IN_kindOf_17 (by decide) (fun c_17 => ?_) (fun c_17 => ?_)
      · skip
        refine g_iload_n (pc := 28) d_IN_kindOf_28 rfl 1 rfl ?_
        refine g_bipush (pc := 29) (v := 59) d_IN_kindOf_29 (by decide) ?_
        refine g_icmp_ne (pc := 31) (tgt := 38) d_IN_kindOf_31 (by decide) (fun c_31 => ?_) (fun c_31 => ?_)
        · skip
          refine g_iconst (pc := 38) (v := 4) d_IN_kindOf_38 (by decide) ?_
          refine g_iret (pc := 39) d_IN_kindOf_39 rfl ?_
          refine ⟨congrArg (fun q => some (Value.int q)) ?_, rfl⟩
          unfold X_kind X_let X_dig
          simp only [← Int32.not_lt, Bool.and_eq_true, decide_eq_true_eq]
          simp only [*, not_true_eq_false, not_false_eq_true, and_self, and_true, true_and, false_and, and_false, if_true, if_false]
          try rfl
        · skip
          refine g_iconst (pc := 34) (v := 3) d_IN_kindOf_34 (by decide) ?_
          refine g_goto (pc := 35) (tgt := 39) d_IN_kindOf_35 (by decide) ?_
          refine g_iret (pc := 39) d_IN_kindOf_39 rfl ?_
          refine ⟨congrArg (fun q => some (Value.int q)) ?_, rfl⟩
          unfold X_kind X_let X_dig
          simp only [← Int32.not_lt, Bool.and_eq_true, decide_eq_true_eq]
          simp only [*, not_true_eq_false, not_false_eq_true, and_self, and_true, true_and, false_and, and_false, if_true, if_false]
          try rfl
      · skip
        refine g_iload_n (pc := 20) d_IN_kindOf_20 rfl 1 rfl ?_
        refine g_bipush (pc := 21) (v := 57) d_IN_kindOf_21 (by decide) ?_
        refine g_icmp_gt (pc := 23) (tgt := 28) d_IN_kindOf_23 (by decide) (fun c_23 => ?_) (fun c_23 => ?_)
        · skip
          refine g_iload_n (pc := 28) d_IN_kindOf_28 rfl 1 rfl ?_
          refine g_bipush (pc := 29) (v := 59) d_IN_kindOf_29 (by decide) ?_
          refine g_icmp_ne (pc := 31) (tgt := 38) d_IN_kindOf_31 (by decide) (fun c_31 => ?_) (fun c_31 => ?_)
          · skip
            refine g_iconst (pc := 38) (v := 4) d_IN_kindOf_38 (by decide) ?_
            refine g_iret (pc := 39) d_IN_kindOf_39 rfl ?_
            refine ⟨congrArg (fun q => some (Value.int q)) ?_, rfl⟩
            unfold X_kind X_let X_dig
            simp only [← Int32.not_lt, Bool.and_eq_true, decide_eq_true_eq]
            simp only [*, not_true_eq_false, not_false_eq_true, and_self, and_true, true_and, false_and, and_false, if_true, if_false]
            try rfl
          · skip
            refine g_iconst (pc := 34) (v := 3) d_IN_kindOf_34 (by decide) ?_
            refine g_goto (pc := 35) (tgt := 39) d_IN_kindOf_35 (by decide) ?_
            refine g_iret (pc := 39) d_IN_kindOf_39 rfl ?_
            refine ⟨congrArg (fun q => some (Value.int q)) ?_, rfl⟩
            unfold X_kind X_let X_dig
            simp only [← Int32.not_lt, Bool.and_eq_true, decide_eq_true_eq]
            simp only [*, not_true_eq_false, not_false_eq_true, and_self, and_true, true_and, false_and, and_false, if_true, if_false]
            try rfl
        · skip
          refine g_iconst (pc := 26) (v := 2) d_IN_kindOf_26 (by decide) ?_
          refine g_iret (pc := 27) d_IN_kindOf_27 rfl ?_
          refine ⟨congrArg (fun q => some (Value.int q)) ?_, rfl⟩
          unfold X_kind X_let X_dig
          simp only [← Int32.not_lt, Bool.and_eq_true, decide_eq_true_eq]
          simp only [*, not_true_eq_false, not_false_eq_true, and_self, and_true, true_and, false_and, and_false, if_true, if_false]
          try rfl
    · skip
      refine g_iconst (pc := 12) (v := 1) d_IN_kindOf_12 (by decide) ?_
      refine g_iret (pc := 13) d_IN_kindOf_13 rfl ?_
      refine ⟨congrArg (fun q => some (Value.int q)) ?_, rfl⟩
      unfold X_kind X_let X_dig
      simp only [← Int32.not_lt, Bool.and_eq_true, decide_eq_true_eq]
      simp only [*, not_true_eq_false, not_false_eq_true, and_self, and_true, true_and, false_and, and_false, if_true, if_false]
      try rfl
set_option maxRecDepth 20000 in
theorem cx_IN_putByte {E : En} {h : Hp} {ip bt n k s e : Nat} {v c : Int32} {F0 T : Nat → Int32} {R : List (Nat × (Nat → Int32))} (hI : InOk h ip bt) (nd : (ip :: bt :: R.map Prod.fst).Nodup) (hn : n < 500) : CR E m_IN_putByte [.ref ip, .int c.toInt8.toInt32] (wL h ((ip, (TF F0 n k s e v)) :: (bt, T) :: R)) (none) (wL h ((ip, (TF F0 (n + 1) k s e v)) :: (bt, (u1 T n c.toInt8.toInt32)) :: R)) := by
  refine ct_of rfl (by decide +kernel) (Nat.le_of_ble_eq_true rfl) ?_
  show G E m_IN_putByte 0 [(0, .ref ip), (1, .int c.toInt8.toInt32)] [] (wL h ((ip, (TF F0 n k s e v)) :: (bt, T) :: R)) 0 0 _ noX
  obtain ⟨k_ip, r_ip_0, k_bt, l_bt⟩ := id hI
  refine g_aload_n (pc := 0) d_IN_putByte_0 rfl 0 rfl ?_
  refine g_lgI0 (pc := 1) (ci := 2) (f := 1) rfl d_IN_putByte_1 fl_IN_15 (by decide) k_ip nd ?_
  refine g_top TF_1 ?_
  refine g_sipush (pc := 4) (v := 500) d_IN_putByte_4 (by decide) ?_
  refine g_icmp_ge (pc := 7) (tgt := 30) d_IN_putByte_7 (by decide) (fun c_7 => ?_) (fun c_7 => ?_)
  · exact absurd ((nI_leI (a := 500) (b := n) (by omega) (by omega)).mp c_7) (by omega)
  · skip
    refine g_aload_n (pc := 10) d_IN_putByte_10 rfl 0 rfl ?_
    refine g_getR (pc := 11) (ci := 2) (f := 0) (b := bt) rfl r_ip_0 d_IN_putByte_11 fl_IN_9 (by decide) k_ip ?_
    refine g_aload_n (pc := 14) d_IN_putByte_14 rfl 0 rfl ?_
    refine g_lgI0 (pc := 15) (ci := 2) (f := 1) rfl d_IN_putByte_15 fl_IN_15 (by decide) k_ip nd ?_
    refine g_top TF_1 ?_
    refine g_iload_n (pc := 18) d_IN_putByte_18 rfl 1 rfl ?_
    refine g_lbE1 (pc := 19) (j := n) (hg := congrArg (u1 T n) (nar_b c)) d_IN_putByte_19 k_bt l_bt (by first | assumption | omega) (by decide) nd ?_
    refine g_aload_n (pc := 20) d_IN_putByte_20 rfl 0 rfl ?_
    refine g_dup (pc := 21) d_IN_putByte_21 rfl ?_
    refine g_lgI0 (pc := 22) (ci := 2) (f := 1) rfl d_IN_putByte_22 fl_IN_15 (by decide) k_ip nd ?_
    refine g_top TF_1 ?_
    refine g_iconst (pc := 25) (v := 1) d_IN_putByte_25 (by decide) ?_
    refine g_iadd (pc := 26) d_IN_putByte_26 ?_
    refine g_top (nI_1 n) ?_
    refine g_lpE0 (pc := 27) (ci := 2) (f := 1) (hg := TF_p1) rfl d_IN_putByte_27 fl_IN_15 (fun q hq => by cases hq; exact rfl) rfl rfl (by decide) k_ip nd ?_
    refine g_vret (pc := 30) d_IN_putByte_30 rfl ?_
    exact ⟨rfl, rfl⟩
set_option maxRecDepth 20000 in
theorem cx_IN_putFour {E : En} {h : Hp} {ip bt n k s e : Nat} {v c : Int32} {F0 T : Nat → Int32} {R : List (Nat × (Nat → Int32))} (hI : InOk h ip bt) (nd : (ip :: bt :: R.map Prod.fst).Nodup) (hn : n + 4 ≤ 500) : CR E m_IN_putFour [.ref ip, .int c] (wL h ((ip, (TF F0 n k s e v)) :: (bt, T) :: R)) (none) (wL h ((ip, (TF F0 (n + 4) k s e v)) :: (bt, (X_four T n c)) :: R)) := by
  refine ct_of rfl (by decide +kernel) (Nat.le_of_ble_eq_true rfl) ?_
  show G E m_IN_putFour 0 [(0, .ref ip), (1, .int c)] [] (wL h ((ip, (TF F0 n k s e v)) :: (bt, T) :: R)) 0 0 _ noX
  obtain ⟨k_ip, r_ip_0, k_bt, l_bt⟩ := id hI
  refine g_aload_n (pc := 0) d_IN_putFour_0 rfl 0 rfl ?_
  refine g_iload_n (pc := 1) d_IN_putFour_1 rfl 1 rfl ?_
  refine g_bipush (pc := 2) (v := 24) d_IN_putFour_2 (by decide) ?_
  refine g_ishr (pc := 4) d_IN_putFour_4 ?_
  refine g_i2b (pc := 5) d_IN_putFour_5 ?_
  refine g_cV0 (pc := 6) (ci := 2) (As := [.int _]) d_IN_putFour_6 rfl mv_IN_putByte st_IN_putFour_19 rfl rfl (by decide) rfl rfl (Nat.le_of_ble_eq_true rfl) k_ip (cx_IN_putByte hI nd (by omega)) ?_
  refine g_aload_n (pc := 9) d_IN_putFour_9 rfl 0 rfl ?_
  refine g_iload_n (pc := 10) d_IN_putFour_10 rfl 1 rfl ?_
  refine g_bipush (pc := 11) (v := 16) d_IN_putFour_11 (by decide) ?_
  refine g_ishr (pc := 13) d_IN_putFour_13 ?_
  refine g_i2b (pc := 14) d_IN_putFour_14 ?_
  refine g_cV0 (pc := 15) (ci := 2) (As := [.int _]) d_IN_putFour_15 rfl mv_IN_putByte st_IN_putFour_19 rfl rfl (by decide) rfl rfl (Nat.le_of_ble_eq_true rfl) k_ip (cx_IN_putByte hI nd (by omega)) ?_
  refine g_aload_n (pc := 18) d_IN_putFour_18 rfl 0 rfl ?_
  refine g_iload_n (pc := 19) d_IN_putFour_19 rfl 1 rfl ?_
  refine g_bipush (pc := 20) (v := 8) d_IN_putFour_20 (by decide) ?_
  refine g_ishr (pc := 22) d_IN_putFour_22 ?_
  refine g_i2b (pc := 23) d_IN_putFour_23 ?_
  refine g_cV0 (pc := 24) (ci := 2) (As := [.int _]) d_IN_putFour_24 rfl mv_IN_putByte st_IN_putFour_19 rfl rfl (by decide) rfl rfl (Nat.le_of_ble_eq_true rfl) k_ip (cx_IN_putByte hI nd (by omega)) ?_
  refine g_aload_n (pc := 27) d_IN_putFour_27 rfl 0 rfl ?_
  refine g_iload_n (pc := 28) d_IN_putFour_28 rfl 1 rfl ?_
  refine g_i2b (pc := 29) d_IN_putFour_29 ?_
  refine g_cV0 (pc := 30) (ci := 2) (As := [.int _]) d_IN_putFour_30 rfl mv_IN_putByte st_IN_putFour_19 rfl rfl (by decide) rfl rfl (Nat.le_of_ble_eq_true rfl) k_ip (cx_IN_putByte hI nd (by omega)) ?_
  refine g_vret (pc := 33) d_IN_putFour_33 rfl ?_
  exact ⟨rfl, rfl⟩
def X_put (T : Nat → Int32) (n : Nat) (l : List Int32) (m : Nat) : Nat → Int32 := fun j => if n ≤ j ∧ j < n + m then l.getD (j - n) 0 else T j
theorem X_put_S (T : Nat → Int32) (n : Nat) (l : List Int32) (m : Nat) : u1 (X_put T n l m) (n + m) (l.getD m 0) = X_put T n l (m + 1) := by
  funext q
  rw [u1_at]
  unfold X_put
  by_cases e : q = n + m
  · rw [if_pos e, if_pos (by omega), e, Nat.add_sub_cancel_left]
  · rw [if_neg e]
    by_cases e2 : n ≤ q ∧ q < n + m
    · rw [if_pos e2, if_pos (by omega)]
    · rw [if_neg e2, if_neg (by omega)]
theorem X_put_0 (T : Nat → Int32) (n : Nat) (l : List Int32) : X_put T n l 0 = T := by
  funext q
  unfold X_put
  rw [if_neg (by omega)]
theorem lp_IN_putText {E : En} {h : Hp} {ip bt n k s e t : Nat} {v : Int32} {F0 T : Nat → Int32} {R : List (Nat × (Nat → Int32))} (hI : InOk h ip bt) (nd : (ip :: bt :: R.map Prod.fst).Nodup) (ht : t < 8) (hn : n + strL.getD t 0 ≤ 500) : ∀ (d i : Nat), i ≤ strL.getD t 0 → strL.getD t 0 - i < d → G E m_IN_putText 2 [(2, .int (nI i)), (0, .ref ip), (1, .ref (eS E t))] [] (wL h ((ip, (TF F0 (n + i) k s e v)) :: (bt, (X_put T n (strB.getD t []) i)) :: R)) 0 0 (fun v1 h1 => v1 = none ∧ h1 = wL h ((ip, (TF F0 (n + strL.getD t 0) k s e v)) :: (bt, (X_put T n (strB.getD t []) (strL.getD t 0))) :: R)) noX := by
  obtain ⟨k_ip, r_ip_0, k_bt, l_bt⟩ := id hI
  intro d
  induction d with
  | zero => intros; omega
  | succ d ih =>
    intro i hi hd
    refine g_iload_n (pc := 2) d_IN_putText_2 rfl 0 rfl ?_
    refine g_aload_n (pc := 3) d_IN_putText_3 rfl 2 rfl ?_
    refine g_callStr (pc := 4) (As := []) ht d_IN_putText_4 rfl mv_ST_length rfl st_IN_putText_23 rfl rfl (Nat.le_of_ble_eq_true rfl) (ct_ST_length ht) ?_
    refine g_icmp_ge (pc := 7) (tgt := 26) d_IN_putText_7 (by decide) (fun c_7 => ?_) (fun c_7 => ?_)
    · skip
      have e9 : i = strL.getD t 0 := by have := (nI_leI (by omega) (by omega)).mp c_7; omega
      refine g_vret (pc := 26) d_IN_putText_26 rfl ?_
      rw [e9]
      exact ⟨rfl, rfl⟩
    · skip
      have e9 : i < strL.getD t 0 := Nat.lt_of_not_le (fun z => c_7 ((nI_leI (by omega) (by omega)).mpr z))
      refine g_aload_n (pc := 10) d_IN_putText_10 rfl 1 rfl ?_
      refine g_aload_n (pc := 11) d_IN_putText_11 rfl 2 rfl ?_
      refine g_iload_n (pc := 12) d_IN_putText_12 rfl 0 rfl ?_
      refine g_callStr (pc := 13) (As := [.int _]) ht d_IN_putText_13 rfl mv_ST_charAt rfl st_IN_putText_28 rfl rfl (Nat.le_of_ble_eq_true rfl) (ct_ST_charAt ht e9) ?_
      refine g_i2b (pc := 16) d_IN_putText_16 ?_
      refine g_cV0 (pc := 17) (ci := 2) (As := [.int _]) d_IN_putText_17 rfl mv_IN_putByte st_IN_putText_19 rfl rfl (by decide) rfl rfl (Nat.le_of_ble_eq_true rfl) k_ip (cx_IN_putByte hI nd (by omega)) ?_
      obtain ⟨x_1, hx_1⟩ : ∃ y : Int32, y = (nI i) + 1 := ⟨_, rfl⟩
      refine g_iinc (pc := 20) (w := 0) (v := x_1) (lv' := [(2, .int x_1), (0, .ref ip), (1, .ref (eS E t))]) d_IN_putText_20 rfl (by rw [hx_1]; rfl) (by decide) rfl ?_
      refine g_goto (pc := 23) (tgt := 2) d_IN_putText_23 (by decide) ?_
      have e8 : x_1 = nI (i + 1) := by rw [hx_1]; exact nI_1 _
      clear hx_1
      subst e8
      refine g_perm [0, 1, 2] rfl ?_
      refine g_h ?_ (ih (i + 1) (by omega) (by omega))
      rw [strB_b t ht i e9, X_put_S, Nat.add_assoc]
set_option maxRecDepth 20000 in
theorem cx_IN_putText {E : En} {h : Hp} {ip bt n k s e t : Nat} {v : Int32} {F0 T : Nat → Int32} {R : List (Nat × (Nat → Int32))} (hI : InOk h ip bt) (nd : (ip :: bt :: R.map Prod.fst).Nodup) (ht : t < 8) (hn : n + strL.getD t 0 ≤ 500) : CR E m_IN_putText [.ref ip, .ref (eS E t)] (wL h ((ip, (TF F0 n k s e v)) :: (bt, T) :: R)) (none) (wL h ((ip, (TF F0 (n + strL.getD t 0) k s e v)) :: (bt, (X_put T n (strB.getD t []) (strL.getD t 0))) :: R)) := by
  refine ct_of rfl (by decide +kernel) (Nat.le_of_ble_eq_true rfl) ?_
  show G E m_IN_putText 0 [(0, .ref ip), (1, .ref (eS E t))] [] (wL h ((ip, (TF F0 n k s e v)) :: (bt, T) :: R)) 0 0 _ noX
  obtain ⟨k_ip, r_ip_0, k_bt, l_bt⟩ := id hI
  refine g_iconst (pc := 0) (v := 0) d_IN_putText_0 (by decide) ?_
  refine g_nameI (fun x_1 hx_1 => ?_)
  refine g_istore_n (pc := 1) (lv' := [(2, .int x_1), (0, .ref ip), (1, .ref (eS E t))]) d_IN_putText_1 rfl (by decide) rfl ?_
  subst hx_1
  refine g_h ?_ (lp_IN_putText (n := n) (k := k) (s := s) (e := e) (v := v) (F0 := F0) (T := T) (R := R) hI nd ht hn (strL.getD t 0 + 1) 0 (Nat.zero_le _) (by omega))
  rw [X_put_0]
  rfl
theorem lp_num {E : En} {h : Hp} {ip bt n k s : Nat} {F0 T : Nat → Int32} {R : List (Nat × (Nat → Int32))} (hI : InOk h ip bt) (nd : (ip :: bt :: R.map Prod.fst).Nodup) (hn : n ≤ 500) : ∀ (d e : Nat) (v : Int32), e ≤ n → n - e < d → G E m_IN_readNumber 5 [(0, .ref ip)] [] (wL h ((ip, (TF F0 n k s e v)) :: (bt, T) :: R)) 0 0 (fun v1 h1 => v1 = none ∧ h1 = wL h ((ip, (TF F0 n k s (X_wh X_dig T (n - e) e) (X_num T (n - e) e v))) :: (bt, T) :: R)) noX := by
  obtain ⟨k_ip, r_ip_0, k_bt, l_bt⟩ := id hI
  intro d
  induction d with
  | zero => intros; omega
  | succ d ih =>
    intro e v he hd
    refine g_aload_n (pc := 5) d_IN_readNumber_5 rfl 0 rfl ?_
    refine g_lgI0 (pc := 6) (ci := 2) (f := 4) rfl d_IN_readNumber_6 fl_IN_32 (by decide) k_ip nd ?_
    refine g_top TF_4 ?_
    refine g_aload_n (pc := 9) d_IN_readNumber_9 rfl 0 rfl ?_
    refine g_lgI0 (pc := 10) (ci := 2) (f := 1) rfl d_IN_readNumber_10 fl_IN_15 (by decide) k_ip nd ?_
    refine g_top TF_1 ?_
    refine g_icmp_ge (pc := 13) (tgt := 90) d_IN_readNumber_13 (by decide) (fun c_13 => ?_) (fun c_13 => ?_)
    · skip
      have e9 : ¬ e < n := by have := (nI_leI (by omega) (by omega)).mp c_13; omega
      refine g_vret (pc := 90) d_IN_readNumber_90 rfl ?_
      first | (rw [X_wh_f (fun _ => e5), X_num_f (fun _ => e5)]; exact ⟨rfl, rfl⟩) | (rw [X_wh_f (fun z => absurd z e9), X_num_f (fun z => absurd z e9)]; exact ⟨rfl, rfl⟩)
    · skip
      have e9 : e < n := Nat.lt_of_not_le (fun z => c_13 ((nI_leI (by omega) (by omega)).mpr z))
      refine g_aload_n (pc := 16) d_IN_readNumber_16 rfl 0 rfl ?_
      refine g_getR (pc := 17) (ci := 2) (f := 0) (b := bt) rfl r_ip_0 d_IN_readNumber_17 fl_IN_9 (by decide) k_ip ?_
      refine g_aload_n (pc := 20) d_IN_readNumber_20 rfl 0 rfl ?_
      refine g_lgI0 (pc := 21) (ci := 2) (f := 4) rfl d_IN_readNumber_21 fl_IN_32 (by decide) k_ip nd ?_
      refine g_top TF_4 ?_
      refine g_lba1 (pc := 24) d_IN_readNumber_24 k_bt l_bt (by first | assumption | omega) (by decide) nd ?_
      refine g_bipush (pc := 25) (v := 48) d_IN_readNumber_25 (by decide) ?_
      refine g_icmp_lt (pc := 27) (tgt := 90) d_IN_readNumber_27 (by decide) (fun c_27 => ?_) (fun c_27 => ?_)
      · skip
        have e5 : ¬ X_dig (T e) = true := by unfold X_dig; simp [Int32.not_le.mpr c_27]
        refine g_vret (pc := 90) d_IN_readNumber_90 rfl ?_
        first | (rw [X_wh_f (fun _ => e5), X_num_f (fun _ => e5)]; exact ⟨rfl, rfl⟩) | (rw [X_wh_f (fun z => absurd z e9), X_num_f (fun z => absurd z e9)]; exact ⟨rfl, rfl⟩)
      · skip
        refine g_aload_n (pc := 30) d_IN_readNumber_30 rfl 0 rfl ?_
        refine g_getR (pc := 31) (ci := 2) (f := 0) (b := bt) rfl r_ip_0 d_IN_readNumber_31 fl_IN_9 (by decide) k_ip ?_
        refine g_aload_n (pc := 34) d_IN_readNumber_34 rfl 0 rfl ?_
        refine g_lgI0 (pc := 35) (ci := 2) (f := 4) rfl d_IN_readNumber_35 fl_IN_32 (by decide) k_ip nd ?_
        refine g_top TF_4 ?_
        refine g_lba1 (pc := 38) d_IN_readNumber_38 k_bt l_bt (by first | assumption | omega) (by decide) nd ?_
        refine g_bipush (pc := 39) (v := 57) d_IN_readNumber_39 (by decide) ?_
        refine g_icmp_gt (pc := 41) (tgt := 90) d_IN_readNumber_41 (by decide) (fun c_41 => ?_) (fun c_41 => ?_)
        · skip
          have e5 : ¬ X_dig (T e) = true := by unfold X_dig; simp [Int32.not_le.mpr c_41]
          refine g_vret (pc := 90) d_IN_readNumber_90 rfl ?_
          first | (rw [X_wh_f (fun _ => e5), X_num_f (fun _ => e5)]; exact ⟨rfl, rfl⟩) | (rw [X_wh_f (fun z => absurd z e9), X_num_f (fun z => absurd z e9)]; exact ⟨rfl, rfl⟩)
        · skip
          have e5 : X_dig (T e) = true := by unfold X_dig; simp [Int32.not_lt.mp c_27, Int32.not_lt.mp c_41]
          refine g_aload_n (pc := 44) d_IN_readNumber_44 rfl 0 rfl ?_
          refine g_lgI0 (pc := 45) (ci := 2) (f := 5) rfl d_IN_readNumber_45 fl_IN_51 (by decide) k_ip nd ?_
          refine g_top TF_5 ?_
          refine g_ldci (pc := 48) d_IN_readNumber_48 co_IN_54 ?_
          refine g_icmp_ge (pc := 50) (tgt := 77) d_IN_readNumber_50 (by decide) (fun c_50 => ?_) (fun c_50 => ?_)
          · skip
            refine g_aload_n (pc := 77) d_IN_readNumber_77 rfl 0 rfl ?_
            refine g_dup (pc := 78) d_IN_readNumber_78 rfl ?_
            refine g_lgI0 (pc := 79) (ci := 2) (f := 4) rfl d_IN_readNumber_79 fl_IN_32 (by decide) k_ip nd ?_
            refine g_top TF_4 ?_
            refine g_iconst (pc := 82) (v := 1) d_IN_readNumber_82 (by decide) ?_
            refine g_iadd (pc := 83) d_IN_readNumber_83 ?_
            refine g_top (nI_1 e) ?_
            refine g_lpE0 (pc := 84) (ci := 2) (f := 4) (hg := TF_p4) rfl d_IN_readNumber_84 fl_IN_32 (fun q hq => by cases hq; exact rfl) rfl rfl (by decide) k_ip nd ?_
            refine g_goto (pc := 87) (tgt := 5) d_IN_readNumber_87 (by decide) ?_
            rw [X_wh_t e9 e5, X_num_t e9 e5]
            first | (rw [show X_v1 v (T e) = 10 * v + T e - 48 from if_pos (Int32.not_le.mp c_50)]; exact ih (e + 1) _ (by omega) (by omega)) | (rw [show X_v1 v (T e) = v from if_neg (Int32.not_lt.mpr c_50)]; exact ih (e + 1) _ (by omega) (by omega))
          · skip
            refine g_aload_n (pc := 53) d_IN_readNumber_53 rfl 0 rfl ?_
            refine g_bipush (pc := 54) (v := 10) d_IN_readNumber_54 (by decide) ?_
            refine g_aload_n (pc := 56) d_IN_readNumber_56 rfl 0 rfl ?_
            refine g_lgI0 (pc := 57) (ci := 2) (f := 5) rfl d_IN_readNumber_57 fl_IN_51 (by decide) k_ip nd ?_
            refine g_top TF_5 ?_
            refine g_imul (pc := 60) d_IN_readNumber_60 ?_
            refine g_aload_n (pc := 61) d_IN_readNumber_61 rfl 0 rfl ?_
            refine g_getR (pc := 62) (ci := 2) (f := 0) (b := bt) rfl r_ip_0 d_IN_readNumber_62 fl_IN_9 (by decide) k_ip ?_
            refine g_aload_n (pc := 65) d_IN_readNumber_65 rfl 0 rfl ?_
            refine g_lgI0 (pc := 66) (ci := 2) (f := 4) rfl d_IN_readNumber_66 fl_IN_32 (by decide) k_ip nd ?_
            refine g_top TF_4 ?_
            refine g_lba1 (pc := 69) d_IN_readNumber_69 k_bt l_bt (by first | assumption | omega) (by decide) nd ?_
            refine g_iadd (pc := 70) d_IN_readNumber_70 ?_
            refine g_bipush (pc := 71) (v := 48) d_IN_readNumber_71 (by decide) ?_
            refine g_isub (pc := 73) d_IN_readNumber_73 ?_
            refine g_lpE0 (pc := 74) (ci := 2) (f := 5) (hg := TF_p5) rfl d_IN_readNumber_74 fl_IN_51 (fun q hq => by cases hq; exact rfl) rfl rfl (by decide) k_ip nd ?_
            refine g_aload_n (pc := 77) d_IN_readNumber_77 rfl 0 rfl ?_
            refine g_dup (pc := 78) d_IN_readNumber_78 rfl ?_
            refine g_lgI0 (pc := 79) (ci := 2) (f := 4) rfl d_IN_readNumber_79 fl_IN_32 (by decide) k_ip nd ?_
            refine g_top TF_4 ?_
            refine g_iconst (pc := 82) (v := 1) d_IN_readNumber_82 (by decide) ?_
            refine g_iadd (pc := 83) d_IN_readNumber_83 ?_
            refine g_top (nI_1 e) ?_
            refine g_lpE0 (pc := 84) (ci := 2) (f := 4) (hg := TF_p4) rfl d_IN_readNumber_84 fl_IN_32 (fun q hq => by cases hq; exact rfl) rfl rfl (by decide) k_ip nd ?_
            refine g_goto (pc := 87) (tgt := 5) d_IN_readNumber_87 (by decide) ?_
            rw [X_wh_t e9 e5, X_num_t e9 e5]
            first | (rw [show X_v1 v (T e) = 10 * v + T e - 48 from if_pos (Int32.not_le.mp c_50)]; exact ih (e + 1) _ (by omega) (by omega)) | (rw [show X_v1 v (T e) = v from if_neg (Int32.not_lt.mpr c_50)]; exact ih (e + 1) _ (by omega) (by omega))
set_option maxRecDepth 20000 in
theorem cx_IN_readNumber {E : En} {h : Hp} {ip bt n k s e : Nat} {v : Int32} {F0 T : Nat → Int32} {R : List (Nat × (Nat → Int32))} (hI : InOk h ip bt) (nd : (ip :: bt :: R.map Prod.fst).Nodup) (hn : n ≤ 500) (he : e ≤ n) : CR E m_IN_readNumber [.ref ip] (wL h ((ip, (TF F0 n k s e v)) :: (bt, T) :: R)) (none) (wL h ((ip, (TF F0 n k s (X_wh X_dig T (n - e) e) (X_num T (n - e) e 0))) :: (bt, T) :: R)) := by
  refine ct_of rfl (by decide +kernel) (Nat.le_of_ble_eq_true rfl) ?_
  show G E m_IN_readNumber 0 [(0, .ref ip)] [] (wL h ((ip, (TF F0 n k s e v)) :: (bt, T) :: R)) 0 0 _ noX
  obtain ⟨k_ip, r_ip_0, k_bt, l_bt⟩ := id hI
  refine g_aload_n (pc := 0) d_IN_readNumber_0 rfl 0 rfl ?_
  refine g_iconst (pc := 1) (v := 0) d_IN_readNumber_1 (by decide) ?_
  refine g_lpE0 (pc := 2) (ci := 2) (f := 5) (hg := TF_p5) rfl d_IN_readNumber_2 fl_IN_51 (fun q hq => by cases hq; exact rfl) rfl rfl (by decide) k_ip nd ?_
  exact lp_num hI nd hn (n + 1) e 0 he (by omega)
theorem lp_sp {E : En} {h : Hp} {ip bt n k s : Nat} {v : Int32} {F0 T : Nat → Int32} {R : List (Nat × (Nat → Int32))} {PP : Option Value → Hp → Prop} (hI : InOk h ip bt) (nd : (ip :: bt :: R.map Prod.fst).Nodup) (hn : n ≤ 500) : ∀ (d e : Nat), e ≤ n → n - e < d → G E m_IN_readNext 38 [(0, .ref ip)] [] (wL h ((ip, (TF F0 n k s (X_wh X_sp T (n - e) e) v)) :: (bt, T) :: R)) 0 0 PP noX → G E m_IN_readNext 0 [(0, .ref ip)] [] (wL h ((ip, (TF F0 n k s e v)) :: (bt, T) :: R)) 0 0 PP noX := by
  obtain ⟨k_ip, r_ip_0, k_bt, l_bt⟩ := id hI
  intro d
  induction d with
  | zero => intros; omega
  | succ d ih =>
    intro e he hd kk
    refine g_aload_n (pc := 0) d_IN_readNext_0 rfl 0 rfl ?_
    refine g_lgI0 (pc := 1) (ci := 2) (f := 4) rfl d_IN_readNext_1 fl_IN_32 (by decide) k_ip nd ?_
    refine g_top TF_4 ?_
    refine g_aload_n (pc := 4) d_IN_readNext_4 rfl 0 rfl ?_
    refine g_lgI0 (pc := 5) (ci := 2) (f := 1) rfl d_IN_readNext_5 fl_IN_15 (by decide) k_ip nd ?_
    refine g_top TF_1 ?_
    refine g_icmp_ge (pc := 8) (tgt := 38) d_IN_readNext_8 (by decide) (fun c_8 => ?_) (fun c_8 => ?_)
    · skip
      have e9 : ¬ e < n := by have := (nI_leI (by omega) (by omega)).mp c_8; omega
      first | (rw [X_wh_f (fun _ => e5)] at kk; exact kk) | (rw [X_wh_f (fun z => absurd z e9)] at kk; exact kk)
    · skip
      have e9 : e < n := Nat.lt_of_not_le (fun z => c_8 ((nI_leI (by omega) (by omega)).mpr z))
      refine g_aload_n (pc := 11) d_IN_readNext_11 rfl 0 rfl ?_
      refine g_getR (pc := 12) (ci := 2) (f := 0) (b := bt) rfl r_ip_0 d_IN_readNext_12 fl_IN_9 (by decide) k_ip ?_
      refine g_aload_n (pc := 15) d_IN_readNext_15 rfl 0 rfl ?_
      refine g_lgI0 (pc := 16) (ci := 2) (f := 4) rfl d_IN_readNext_16 fl_IN_32 (by decide) k_ip nd ?_
      refine g_top TF_4 ?_
      refine g_lba1 (pc := 19) d_IN_readNext_19 k_bt l_bt (by first | assumption | omega) (by decide) nd ?_
      refine g_bipush (pc := 20) (v := 32) d_IN_readNext_20 (by decide) ?_
      refine g_icmp_ne (pc := 22) (tgt := 38) d_IN_readNext_22 (by decide) (fun c_22 => ?_) (fun c_22 => ?_)
      · skip
        have e5 : ¬ X_sp (T e) = true := by unfold X_sp; simp [c_22]
        first | (rw [X_wh_f (fun _ => e5)] at kk; exact kk) | (rw [X_wh_f (fun z => absurd z e9)] at kk; exact kk)
      · skip
        have e5 : X_sp (T e) = true := by unfold X_sp; simp [c_22]
        refine g_aload_n (pc := 25) d_IN_readNext_25 rfl 0 rfl ?_
        refine g_dup (pc := 26) d_IN_readNext_26 rfl ?_
        refine g_lgI0 (pc := 27) (ci := 2) (f := 4) rfl d_IN_readNext_27 fl_IN_32 (by decide) k_ip nd ?_
        refine g_top TF_4 ?_
        refine g_iconst (pc := 30) (v := 1) d_IN_readNext_30 (by decide) ?_
        refine g_iadd (pc := 31) d_IN_readNext_31 ?_
        refine g_top (nI_1 e) ?_
        refine g_lpE0 (pc := 32) (ci := 2) (f := 4) (hg := TF_p4) rfl d_IN_readNext_32 fl_IN_32 (fun q hq => by cases hq; exact rfl) rfl rfl (by decide) k_ip nd ?_
        refine g_goto (pc := 35) (tgt := 0) d_IN_readNext_35 (by decide) ?_
        rw [X_wh_t e9 e5] at kk
        exact ih (e + 1) (by omega) (by omega) kk
theorem X_kind_le (c : Int32) : X_kind c ≤ 4 := by
  unfold X_kind
  split
  · decide
  · split
    · decide
    · split <;> decide
theorem X_kind_pos (c : Int32) : 1 ≤ X_kind c := by
  unfold X_kind
  split
  · decide
  · split
    · decide
    · split <;> decide
theorem nI_inj {a b : Nat} (ha : a < 2 ^ 31) (hb : b < 2 ^ 31) (e : nI a = nI b) : a = b := by
  have := congrArg Int32.toInt e
  rw [nI_toInt ha, nI_toInt hb] at this
  omega
theorem X_kind_let {c : Int32} : X_kind c = 1 ↔ X_let c = true := by
  unfold X_kind
  by_cases h : X_let c = true
  · simp [h]
  · rw [if_neg h]
    refine ⟨fun z => ?_, fun z => absurd z h⟩
    exfalso
    revert z
    split
    · decide
    · split <;> decide
theorem lp_let {E : En} {h : Hp} {ip bt n k s : Nat} {v : Int32} {F0 T : Nat → Int32} {R : List (Nat × (Nat → Int32))} {PP : Option Value → Hp → Prop} (hI : InOk h ip bt) (nd : (ip :: bt :: R.map Prod.fst).Nodup) (hn : n ≤ 500) : ∀ (d e : Nat), e ≤ n → n - e < d → G E m_IN_readNext 159 [(0, .ref ip)] [] (wL h ((ip, (TF F0 n k s (X_wh X_let T (n - e) e) v)) :: (bt, T) :: R)) 0 0 PP noX → G E m_IN_readNext 86 [(0, .ref ip)] [] (wL h ((ip, (TF F0 n k s e v)) :: (bt, T) :: R)) 0 0 PP noX := by
  obtain ⟨k_ip, r_ip_0, k_bt, l_bt⟩ := id hI
  intro d
  induction d with
  | zero => intros; omega
  | succ d ih =>
    intro e he hd kk
    refine g_aload_n (pc := 86) d_IN_readNext_86 rfl 0 rfl ?_
    refine g_lgI0 (pc := 87) (ci := 2) (f := 4) rfl d_IN_readNext_87 fl_IN_32 (by decide) k_ip nd ?_
    refine g_top TF_4 ?_
    refine g_aload_n (pc := 90) d_IN_readNext_90 rfl 0 rfl ?_
    refine g_lgI0 (pc := 91) (ci := 2) (f := 1) rfl d_IN_readNext_91 fl_IN_15 (by decide) k_ip nd ?_
    refine g_top TF_1 ?_
    refine g_icmp_ge (pc := 94) (tgt := 159) d_IN_readNext_94 (by decide) (fun c_94 => ?_) (fun c_94 => ?_)
    · skip
      have e9 : ¬ e < n := by have := (nI_leI (by omega) (by omega)).mp c_94; omega
      first | (rw [X_wh_f (fun _ => e5)] at kk; exact kk) | (rw [X_wh_f (fun z => absurd z e9)] at kk; exact kk)
    · skip
      have e9 : e < n := Nat.lt_of_not_le (fun z => c_94 ((nI_leI (by omega) (by omega)).mpr z))
      refine g_aload_n (pc := 97) d_IN_readNext_97 rfl 0 rfl ?_
      refine g_aload_n (pc := 98) d_IN_readNext_98 rfl 0 rfl ?_
      refine g_getR (pc := 99) (ci := 2) (f := 0) (b := bt) rfl r_ip_0 d_IN_readNext_99 fl_IN_9 (by decide) k_ip ?_
      refine g_aload_n (pc := 102) d_IN_readNext_102 rfl 0 rfl ?_
      refine g_lgI0 (pc := 103) (ci := 2) (f := 4) rfl d_IN_readNext_103 fl_IN_32 (by decide) k_ip nd ?_
      refine g_top TF_4 ?_
      refine g_lba1 (pc := 106) d_IN_readNext_106 k_bt l_bt (by first | assumption | omega) (by decide) nd ?_
      refine g_cV1 (pc := 107) (ci := 2) (As := [.int _]) d_IN_readNext_107 rfl mv_IN_kindOf st_IN_readNext_41 rfl rfl (by decide) rfl rfl (Nat.le_of_ble_eq_true rfl) k_ip ct_IN_kindOf ?_
      refine g_iconst (pc := 110) (v := 1) d_IN_readNext_110 (by decide) ?_
      refine g_icmp_ne (pc := 111) (tgt := 159) d_IN_readNext_111 (by decide) (fun c_111 => ?_) (fun c_111 => ?_)
      · skip
        have e5 : ¬ X_let (T e) = true := fun z => c_111 (by rw [X_kind_let.mpr z]; rfl)
        first | (rw [X_wh_f (fun _ => e5)] at kk; exact kk) | (rw [X_wh_f (fun z => absurd z e9)] at kk; exact kk)
      · skip
        have e5 : X_let (T e) = true := X_kind_let.mp (nI_inj (Nat.lt_of_le_of_lt (X_kind_le (T e)) (by decide)) (by decide) c_111)
        refine g_aload_n (pc := 114) d_IN_readNext_114 rfl 0 rfl ?_
        refine g_dup (pc := 115) d_IN_readNext_115 rfl ?_
        refine g_lgI0 (pc := 116) (ci := 2) (f := 4) rfl d_IN_readNext_116 fl_IN_32 (by decide) k_ip nd ?_
        refine g_top TF_4 ?_
        refine g_iconst (pc := 119) (v := 1) d_IN_readNext_119 (by decide) ?_
        refine g_iadd (pc := 120) d_IN_readNext_120 ?_
        refine g_top (nI_1 e) ?_
        refine g_lpE0 (pc := 121) (ci := 2) (f := 4) (hg := TF_p4) rfl d_IN_readNext_121 fl_IN_32 (fun q hq => by cases hq; exact rfl) rfl rfl (by decide) k_ip nd ?_
        refine g_goto (pc := 124) (tgt := 86) d_IN_readNext_124 (by decide) ?_
        rw [X_wh_t e9 e5] at kk
        exact ih (e + 1) (by omega) (by omega) kk
theorem X_tok_at {T : Nat → Int32} {n e s q : Nat} (hs : X_wh X_sp T (n - e) e = s) (hq : (if s < n then X_kind (T s) else 0) = q) : X_tok T n e = (q, s, if q = 1 then X_wh X_let T (n - s) s else if q = 2 then X_wh X_dig T (n - s) s else if q = 0 then s else s + 1) := by
  unfold X_tok
  simp only [hs, hq]
theorem X_val_at {T : Nat → Int32} {n e s q : Nat} {v : Int32} (hs : X_wh X_sp T (n - e) e = s) (hq : (if s < n then X_kind (T s) else 0) = q) : X_val T n e v = if q = 2 then X_num T (n - s) s 0 else v := by
  unfold X_val
  simp only [hs, hq]
theorem rn_75 {E : En} {h : Hp} {ip bt n k e q s8 : Nat} {v : Int32} {F0 T : Nat → Int32} {R : List (Nat × (Nat → Int32))} (hI : InOk h ip bt) (nd : (ip :: bt :: R.map Prod.fst).Nodup) (hn : n ≤ 500) (hle : s8 ≤ n) (hs8 : X_wh X_sp T (n - e) e = s8) (hq8 : (if s8 < n then X_kind (T s8) else 0) = q) (hq4 : q ≤ 4) (hq0 : q = 0 ↔ ¬ s8 < n) : G E m_IN_readNext 75 [(0, .ref ip)] [.int (nI q), .ref ip] (wL h ((ip, (TF F0 n k s8 s8 v)) :: (bt, T) :: R)) 0 0 (fun v1 h1 => v1 = none ∧ h1 = wL h ((ip, (TF F0 n (X_tok T n e).1 (X_tok T n e).2.1 (X_tok T n e).2.2 (X_val T n e v))) :: (bt, T) :: R)) noX := by
  obtain ⟨k_ip, r_ip_0, k_bt, l_bt⟩ := id hI
  rw [X_tok_at hs8 hq8, X_val_at hs8 hq8]
  refine g_lpE0 (pc := 75) (ci := 2) (f := 2) (hg := TF_p2) rfl d_IN_readNext_75 fl_IN_45 (fun q hq => by cases hq; exact rfl) rfl rfl (by decide) k_ip nd ?_
  refine g_aload_n (pc := 78) d_IN_readNext_78 rfl 0 rfl ?_
  refine g_lgI0 (pc := 79) (ci := 2) (f := 2) rfl d_IN_readNext_79 fl_IN_45 (by decide) k_ip nd ?_
  refine g_top TF_2 ?_
  refine g_iconst (pc := 82) (v := 1) d_IN_readNext_82 (by decide) ?_
  refine g_icmp_ne (pc := 83) (tgt := 127) d_IN_readNext_83 (by decide) (fun c_83 => ?_) (fun c_83 => ?_)
  · skip
    have e1 : q ≠ 1 := fun z => c_83 (by rw [z]; rfl)
    refine g_aload_n (pc := 127) d_IN_readNext_127 rfl 0 rfl ?_
    refine g_lgI0 (pc := 128) (ci := 2) (f := 2) rfl d_IN_readNext_128 fl_IN_45 (by decide) k_ip nd ?_
    refine g_top TF_2 ?_
    refine g_iconst (pc := 131) (v := 2) d_IN_readNext_131 (by decide) ?_
    refine g_icmp_ne (pc := 132) (tgt := 142) d_IN_readNext_132 (by decide) (fun c_132 => ?_) (fun c_132 => ?_)
    · skip
      have e2 : q ≠ 2 := fun z => c_132 (by rw [z]; rfl)
      refine g_aload_n (pc := 142) d_IN_readNext_142 rfl 0 rfl ?_
      refine g_lgI0 (pc := 143) (ci := 2) (f := 2) rfl d_IN_readNext_143 fl_IN_45 (by decide) k_ip nd ?_
      refine g_top TF_2 ?_
      refine g_if_eq (pc := 146) (tgt := 159) d_IN_readNext_146 (by decide) (fun c_146 => ?_) (fun c_146 => ?_)
      · skip
        have e3 : q = 0 := nI_inj (b := 0) (by omega) (by decide) c_146
        refine g_vret (pc := 159) d_IN_readNext_159 rfl ?_
        refine ⟨rfl, ?_⟩
        first | (simp only [e1, e2, e3, if_false]; done) | (subst e3; rfl) | (subst e2; rfl)
      · skip
        have e3 : q ≠ 0 := fun z => c_146 (by rw [z]; rfl)
        refine g_aload_n (pc := 149) d_IN_readNext_149 rfl 0 rfl ?_
        refine g_dup (pc := 150) d_IN_readNext_150 rfl ?_
        refine g_lgI0 (pc := 151) (ci := 2) (f := 4) rfl d_IN_readNext_151 fl_IN_32 (by decide) k_ip nd ?_
        refine g_top TF_4 ?_
        refine g_iconst (pc := 154) (v := 1) d_IN_readNext_154 (by decide) ?_
        refine g_iadd (pc := 155) d_IN_readNext_155 ?_
        refine g_top (nI_1 s8) ?_
        refine g_lpE0 (pc := 156) (ci := 2) (f := 4) (hg := TF_p4) rfl d_IN_readNext_156 fl_IN_32 (fun q hq => by cases hq; exact rfl) rfl rfl (by decide) k_ip nd ?_
        refine g_vret (pc := 159) d_IN_readNext_159 rfl ?_
        refine ⟨rfl, ?_⟩
        first | (simp only [e1, e2, e3, if_false]; done) | (subst e3; rfl) | (subst e2; rfl)
    · skip
      have e2 : q = 2 := nI_inj (by omega) (by decide) c_132
      refine g_aload_n (pc := 135) d_IN_readNext_135 rfl 0 rfl ?_
      refine g_cV0 (pc := 136) (ci := 2) (As := []) d_IN_readNext_136 rfl mv_IN_readNumber st_IN_readNext_48 rfl rfl (by decide) rfl rfl (Nat.le_of_ble_eq_true rfl) k_ip (cx_IN_readNumber hI nd hn (by omega)) ?_
      refine g_goto (pc := 139) (tgt := 159) d_IN_readNext_139 (by decide) ?_
      refine g_vret (pc := 159) d_IN_readNext_159 rfl ?_
      refine ⟨rfl, ?_⟩
      first | (simp only [e1, e2, e3, if_false]; done) | (subst e3; rfl) | (subst e2; rfl)
  · skip
    have e1 : q = 1 := nI_inj (by omega) (by decide) c_83
    refine lp_let hI nd hn (n + 1) s8 hle (by omega) ?_
    subst e1
    refine g_vret (pc := 159) d_IN_readNext_159 rfl ?_
    exact ⟨rfl, rfl⟩
set_option maxRecDepth 20000 in
theorem cx_IN_readNext {E : En} {h : Hp} {ip bt n k s e : Nat} {v : Int32} {F0 T : Nat → Int32} {R : List (Nat × (Nat → Int32))} (hI : InOk h ip bt) (nd : (ip :: bt :: R.map Prod.fst).Nodup) (hn : n ≤ 500) (he : e ≤ n) : CR E m_IN_readNext [.ref ip] (wL h ((ip, (TF F0 n k s e v)) :: (bt, T) :: R)) none (wL h ((ip, (TF F0 n (X_tok T n e).1 (X_tok T n e).2.1 (X_tok T n e).2.2 (X_val T n e v))) :: (bt, T) :: R)) := by
  refine ct_of rfl (by decide +kernel) (Nat.le_of_ble_eq_true rfl) ?_
  show G E m_IN_readNext 0 [(0, .ref ip)] [] (wL h ((ip, (TF F0 n k s e v)) :: (bt, T) :: R)) 0 0 _ noX
  obtain ⟨k_ip, r_ip_0, k_bt, l_bt⟩ := id hI
  generalize hs8 : X_wh X_sp T (n - e) e = s8
  have hle : e ≤ s8 ∧ s8 ≤ n := by have := X_wh_le X_sp T (n - e) e; rw [hs8] at this; omega
  refine lp_sp hI nd hn (n + 1) e he (by omega) ?_
  rw [hs8]
  refine g_aload_n (pc := 38) d_IN_readNext_38 rfl 0 rfl ?_
  refine g_aload_n (pc := 39) d_IN_readNext_39 rfl 0 rfl ?_
  refine g_lgI0 (pc := 40) (ci := 2) (f := 4) rfl d_IN_readNext_40 fl_IN_32 (by decide) k_ip nd ?_
  refine g_top TF_4 ?_
  refine g_lpE0 (pc := 43) (ci := 2) (f := 3) (hg := TF_p3) rfl d_IN_readNext_43 fl_IN_38 (fun q hq => by cases hq; exact rfl) rfl rfl (by decide) k_ip nd ?_
  refine g_aload_n (pc := 46) d_IN_readNext_46 rfl 0 rfl ?_
  refine g_aload_n (pc := 47) d_IN_readNext_47 rfl 0 rfl ?_
  refine g_lgI0 (pc := 48) (ci := 2) (f := 4) rfl d_IN_readNext_48 fl_IN_32 (by decide) k_ip nd ?_
  refine g_top TF_4 ?_
  refine g_aload_n (pc := 51) d_IN_readNext_51 rfl 0 rfl ?_
  refine g_lgI0 (pc := 52) (ci := 2) (f := 1) rfl d_IN_readNext_52 fl_IN_15 (by decide) k_ip nd ?_
  refine g_top TF_1 ?_
  refine g_icmp_ge (pc := 55) (tgt := 74) d_IN_readNext_55 (by decide) (fun c_55 => ?_) (fun c_55 => ?_)
  · skip
    have e9 : ¬ s8 < n := by have := (nI_leI (by omega) (by omega)).mp c_55; omega
    have hq8 : (if s8 < n then X_kind (T s8) else 0) = 0 := if_neg e9
    refine g_iconst (pc := 74) (v := 0) d_IN_readNext_74 (by decide) ?_
    first | exact rn_75 (q := 0) hI nd hn hle.2 hs8 hq8 (by omega) ⟨fun _ => e9, fun _ => rfl⟩ | exact rn_75 hI nd hn hle.2 hs8 hq8 (X_kind_le _) ⟨fun z => absurd z (by have := X_kind_pos (T s8); omega), fun z => absurd e9 z⟩
  · skip
    have e9 : s8 < n := Nat.lt_of_not_le (fun z => c_55 ((nI_leI (by omega) (by omega)).mpr z))
    have hq8 : (if s8 < n then X_kind (T s8) else 0) = X_kind (T s8) := if_pos e9
    refine g_aload_n (pc := 58) d_IN_readNext_58 rfl 0 rfl ?_
    refine g_aload_n (pc := 59) d_IN_readNext_59 rfl 0 rfl ?_
    refine g_getR (pc := 60) (ci := 2) (f := 0) (b := bt) rfl r_ip_0 d_IN_readNext_60 fl_IN_9 (by decide) k_ip ?_
    refine g_aload_n (pc := 63) d_IN_readNext_63 rfl 0 rfl ?_
    refine g_lgI0 (pc := 64) (ci := 2) (f := 4) rfl d_IN_readNext_64 fl_IN_32 (by decide) k_ip nd ?_
    refine g_top TF_4 ?_
    refine g_lba1 (pc := 67) d_IN_readNext_67 k_bt l_bt (by first | assumption | omega) (by decide) nd ?_
    refine g_cV1 (pc := 68) (ci := 2) (As := [.int _]) d_IN_readNext_68 rfl mv_IN_kindOf st_IN_readNext_41 rfl rfl (by decide) rfl rfl (Nat.le_of_ble_eq_true rfl) k_ip ct_IN_kindOf ?_
    refine g_goto (pc := 71) (tgt := 75) d_IN_readNext_71 (by decide) ?_
    first | exact rn_75 (q := 0) hI nd hn hle.2 hs8 hq8 (by omega) ⟨fun _ => e9, fun _ => rfl⟩ | exact rn_75 hI nd hn hle.2 hs8 hq8 (X_kind_le _) ⟨fun z => absurd z (by have := X_kind_pos (T s8); omega), fun z => absurd e9 z⟩
set_option maxRecDepth 20000 in
theorem cx_IN_readFirst {E : En} {h : Hp} {ip bt n k s e : Nat} {v : Int32} {F0 T : Nat → Int32} {R : List (Nat × (Nat → Int32))} (hI : InOk h ip bt) (nd : (ip :: bt :: R.map Prod.fst).Nodup) (hn : n ≤ 500) : CR E m_IN_readFirst [.ref ip] (wL h ((ip, (TF F0 n k s e v)) :: (bt, T) :: R)) (none) (wL h ((ip, (TF F0 n (X_tok T n 0).1 (X_tok T n 0).2.1 (X_tok T n 0).2.2 (X_val T n 0 v))) :: (bt, T) :: R)) := by
  refine ct_of rfl (by decide +kernel) (Nat.le_of_ble_eq_true rfl) ?_
  show G E m_IN_readFirst 0 [(0, .ref ip)] [] (wL h ((ip, (TF F0 n k s e v)) :: (bt, T) :: R)) 0 0 _ noX
  obtain ⟨k_ip, r_ip_0, k_bt, l_bt⟩ := id hI
  refine g_aload_n (pc := 0) d_IN_readFirst_0 rfl 0 rfl ?_
  refine g_iconst (pc := 1) (v := 0) d_IN_readFirst_1 (by decide) ?_
  refine g_lpE0 (pc := 2) (ci := 2) (f := 4) (hg := (TF_p4 (x := 0))) rfl d_IN_readFirst_2 fl_IN_32 (fun q hq => by cases hq; exact rfl) rfl rfl (by decide) k_ip nd ?_
  refine g_aload_n (pc := 5) d_IN_readFirst_5 rfl 0 rfl ?_
  refine g_cV0 (pc := 6) (ci := 2) (As := []) d_IN_readFirst_6 rfl mv_IN_readNext st_IN_readFirst_35 rfl rfl (by decide) rfl rfl (Nat.le_of_ble_eq_true rfl) k_ip (cx_IN_readNext hI nd hn (by omega)) ?_
  refine g_vret (pc := 9) d_IN_readFirst_9 rfl ?_
  exact ⟨rfl, rfl⟩
def X_isw (T : Nat → Int32) (k s e : Nat) (l : List Int32) : Bool := decide (k = 1) && (decide (e - s = l.length) && (List.range l.length).all (fun j => decide (T (s + j) = l.getD j 0)))
theorem strL_len : ∀ i, i < 8 → (strB.getD i []).length = strL.getD i 0 := by decide +kernel
theorem X_isw_t {T : Nat → Int32} {s e : Nat} {l : List Int32} (h1 : e - s = l.length) (h2 : ∀ j, j < l.length → T (s + j) = l.getD j 0) : X_isw T 1 s e l = true := by
  unfold X_isw
  rw [decide_eq_true rfl, decide_eq_true h1, List.all_eq_true.mpr (fun j hj => decide_eq_true (h2 j (List.mem_range.mp hj)))]
  rfl
theorem X_isw_f {T : Nat → Int32} {k s e : Nat} {l : List Int32} (h : X_isw T k s e l = true) : k = 1 ∧ e - s = l.length ∧ ∀ j, j < l.length → T (s + j) = l.getD j 0 := by
  unfold X_isw at h
  rw [Bool.and_eq_true, Bool.and_eq_true] at h
  exact ⟨of_decide_eq_true h.1, of_decide_eq_true h.2.1, fun j hj => of_decide_eq_true (List.all_eq_true.mp h.2.2 j (List.mem_range.mpr hj))⟩
theorem lp_isw {E : En} {h : Hp} {ip bt n k s e t : Nat} {v : Int32} {F0 T : Nat → Int32} {R : List (Nat × (Nat → Int32))} (hI : InOk h ip bt) (nd : (ip :: bt :: R.map Prod.fst).Nodup) (ht : t < 8) (hk4 : k ≤ 4) (hse : s ≤ e) (hn : e ≤ 500) (hk : k = 1) (hl : e - s = strL.getD t 0) : ∀ (d i : Nat), i ≤ strL.getD t 0 → (∀ j, j < i → T (s + j) = (strB.getD t []).getD j 0) → strL.getD t 0 - i < d → G E m_IN_isWord 28 [(2, .int (nI i)), (0, .ref ip), (1, .ref (eS E t))] [] (wL h ((ip, (TF F0 n k s e v)) :: (bt, T) :: R)) 0 0 (fun v1 h1 => v1 = some (.int (bI (X_isw T k s e (strB.getD t [])))) ∧ h1 = wL h ((ip, (TF F0 n k s e v)) :: (bt, T) :: R)) noX := by
  obtain ⟨k_ip, r_ip_0, k_bt, l_bt⟩ := id hI
  have hlen := strL_len t ht
  subst hk
  intro d
  induction d with
  | zero => intros; omega
  | succ d ih =>
    intro i hi ha hd
    refine g_iload_n (pc := 28) d_IN_isWord_28 rfl 0 rfl ?_
    refine g_aload_n (pc := 29) d_IN_isWord_29 rfl 2 rfl ?_
    refine g_callStr (pc := 30) (As := []) ht d_IN_isWord_30 rfl mv_ST_length rfl st_IN_isWord_23 rfl rfl (Nat.le_of_ble_eq_true rfl) (ct_ST_length ht) ?_
    refine g_icmp_ge (pc := 33) (tgt := 63) d_IN_isWord_33 (by decide) (fun c_33 => ?_) (fun c_33 => ?_)
    · skip
      have e9 : i = strL.getD t 0 := by have := (nI_leI (by omega) (by omega)).mp c_33; omega
      refine g_iconst (pc := 63) (v := 1) d_IN_isWord_63 (by decide) ?_
      refine g_zret (pc := 64) d_IN_isWord_64 rfl rfl ?_
      rw [X_isw_t (by rw [hlen]; exact hl) (fun j hj => ha j (by omega))]
      exact ⟨rfl, rfl⟩
    · skip
      have e9 : i < strL.getD t 0 := Nat.lt_of_not_le (fun z => c_33 ((nI_leI (by omega) (by omega)).mpr z))
      refine g_aload_n (pc := 36) d_IN_isWord_36 rfl 1 rfl ?_
      refine g_getR (pc := 37) (ci := 2) (f := 0) (b := bt) rfl r_ip_0 d_IN_isWord_37 fl_IN_9 (by decide) k_ip ?_
      refine g_aload_n (pc := 40) d_IN_isWord_40 rfl 1 rfl ?_
      refine g_lgI0 (pc := 41) (ci := 2) (f := 3) rfl d_IN_isWord_41 fl_IN_38 (by decide) k_ip nd ?_
      refine g_top TF_3 ?_
      refine g_iload_n (pc := 44) d_IN_isWord_44 rfl 0 rfl ?_
      refine g_iadd (pc := 45) d_IN_isWord_45 ?_
      refine g_top (nI_add s i) ?_
      refine g_lba1 (pc := 46) d_IN_isWord_46 k_bt l_bt (by first | assumption | omega) (by decide) nd ?_
      refine g_aload_n (pc := 47) d_IN_isWord_47 rfl 2 rfl ?_
      refine g_iload_n (pc := 48) d_IN_isWord_48 rfl 0 rfl ?_
      refine g_callStr (pc := 49) (As := [.int _]) ht d_IN_isWord_49 rfl mv_ST_charAt rfl st_IN_isWord_28 rfl rfl (Nat.le_of_ble_eq_true rfl) (ct_ST_charAt ht e9) ?_
      refine g_icmp_eq (pc := 52) (tgt := 57) d_IN_isWord_52 (by decide) (fun c_52 => ?_) (fun c_52 => ?_)
      · skip
        obtain ⟨x_1, hx_1⟩ : ∃ y : Int32, y = (nI i) + 1 := ⟨_, rfl⟩
        refine g_iinc (pc := 57) (w := 0) (v := x_1) (lv' := [(2, .int x_1), (0, .ref ip), (1, .ref (eS E t))]) d_IN_isWord_57 rfl (by rw [hx_1]; rfl) (by decide) rfl ?_
        refine g_goto (pc := 60) (tgt := 28) d_IN_isWord_60 (by decide) ?_
        have e8 : x_1 = nI (i + 1) := by rw [hx_1]; exact nI_1 _
        clear hx_1
        subst e8
        refine g_perm [0, 1, 2] rfl ?_
        exact ih (i + 1) (by omega) (fun j hj => (Nat.lt_or_eq_of_le (Nat.le_of_lt_succ hj)).elim (fun z => ha j z) (fun z => by rw [z]; exact c_52)) (by omega)
      · skip
        refine g_iconst (pc := 55) (v := 0) d_IN_isWord_55 (by decide) ?_
        refine g_zret (pc := 56) d_IN_isWord_56 rfl rfl ?_
        refine ⟨?_, rfl⟩
        cases z : X_isw T 1 s e (strB.getD t []) with
        | false => rfl
        | true => exact absurd ((X_isw_f z).2.2 i (by omega)) c_52
theorem nI_sub {a b : Nat} (h : a ≤ b) : nI b - nI a = nI (b - a) := by
  have e : nI (b - a) + nI a = nI b := by rw [nI_add]; exact congrArg nI (Nat.sub_add_cancel h)
  rw [← e, Int32.add_sub_cancel]
set_option maxRecDepth 20000 in
theorem cx_IN_isWord {E : En} {h : Hp} {ip bt n k s e t : Nat} {v : Int32} {F0 T : Nat → Int32} {R : List (Nat × (Nat → Int32))} (hI : InOk h ip bt) (nd : (ip :: bt :: R.map Prod.fst).Nodup) (ht : t < 8) (hk4 : k ≤ 4) (hse : s ≤ e) (hn : e ≤ 500) : CR E m_IN_isWord [.ref ip, .ref (eS E t)] (wL h ((ip, (TF F0 n k s e v)) :: (bt, T) :: R)) (some (.int (bI (X_isw T k s e (strB.getD t []))))) (wL h ((ip, (TF F0 n k s e v)) :: (bt, T) :: R)) := by
  refine ct_of rfl (by decide +kernel) (Nat.le_of_ble_eq_true rfl) ?_
  show G E m_IN_isWord 0 [(0, .ref ip), (1, .ref (eS E t))] [] (wL h ((ip, (TF F0 n k s e v)) :: (bt, T) :: R)) 0 0 _ noX
  obtain ⟨k_ip, r_ip_0, k_bt, l_bt⟩ := id hI
  refine g_aload_n (pc := 0) d_IN_isWord_0 rfl 0 rfl ?_
  refine g_lgI0 (pc := 1) (ci := 2) (f := 2) rfl d_IN_isWord_1 fl_IN_45 (by decide) k_ip nd ?_
  refine g_top TF_2 ?_
  refine g_iconst (pc := 4) (v := 1) d_IN_isWord_4 (by decide) ?_
  refine g_icmp_ne (pc := 5) (tgt := 24) d_IN_isWord_5 (by decide) (fun c_5 => ?_) (fun c_5 => ?_)
  · skip
    refine g_iconst (pc := 24) (v := 0) d_IN_isWord_24 (by decide) ?_
    refine g_zret (pc := 25) d_IN_isWord_25 rfl rfl ?_
    refine ⟨?_, rfl⟩
    cases z : X_isw T k s e (strB.getD t []) with
    | false => rfl
    | true => exact absurd (X_isw_f z) (by first | exact fun q => c_5 (by rw [q.1]; rfl) | exact fun q => c_21 (by rw [q.2.1, strL_len t ht]))
  · skip
    refine g_aload_n (pc := 8) d_IN_isWord_8 rfl 0 rfl ?_
    refine g_lgI0 (pc := 9) (ci := 2) (f := 4) rfl d_IN_isWord_9 fl_IN_32 (by decide) k_ip nd ?_
    refine g_top TF_4 ?_
    refine g_aload_n (pc := 12) d_IN_isWord_12 rfl 0 rfl ?_
    refine g_lgI0 (pc := 13) (ci := 2) (f := 3) rfl d_IN_isWord_13 fl_IN_38 (by decide) k_ip nd ?_
    refine g_top TF_3 ?_
    refine g_isub (pc := 16) d_IN_isWord_16 ?_
    refine g_top (nI_sub hse) ?_
    refine g_aload_n (pc := 17) d_IN_isWord_17 rfl 1 rfl ?_
    refine g_callStr (pc := 18) (As := []) ht d_IN_isWord_18 rfl mv_ST_length rfl st_IN_isWord_23 rfl rfl (Nat.le_of_ble_eq_true rfl) (ct_ST_length ht) ?_
    refine g_icmp_eq (pc := 21) (tgt := 26) d_IN_isWord_21 (by decide) (fun c_21 => ?_) (fun c_21 => ?_)
    · skip
      have hl : e - s = strL.getD t 0 := nI_inj (by omega) (by have := strL_lt t ht; omega) c_21
      refine g_iconst (pc := 26) (v := 0) d_IN_isWord_26 (by decide) ?_
      refine g_nameI (fun x_1 hx_1 => ?_)
      refine g_istore_n (pc := 27) (lv' := [(2, .int x_1), (0, .ref ip), (1, .ref (eS E t))]) d_IN_isWord_27 rfl (by decide) rfl ?_
      subst hx_1
      exact lp_isw hI nd ht hk4 hse hn (nI_inj (by omega) (by decide) c_5) hl (strL.getD t 0 + 1) 0 (Nat.zero_le _) (fun j hj => by omega) (by omega)
    · skip
      refine g_iconst (pc := 24) (v := 0) d_IN_isWord_24 (by decide) ?_
      refine g_zret (pc := 25) d_IN_isWord_25 rfl rfl ?_
      refine ⟨?_, rfl⟩
      cases z : X_isw T k s e (strB.getD t []) with
      | false => rfl
      | true => exact absurd (X_isw_f z) (by first | exact fun q => c_5 (by rw [q.1]; rfl) | exact fun q => c_21 (by rw [q.2.1, strL_len t ht]))
