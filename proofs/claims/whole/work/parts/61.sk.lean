/-! new HonestScalesModel() -/
def Rd (G : Nat → Int32) : Bu := (G, fun j => G (14 + j), fun i k => G (20 + 15 * i + k))
theorem enc_Rd {nw sc : Nat} {G : Nat → Int32} : enc nw sc (Rd G) G = G := by
  funext q
  unfold enc Rd
  split
  · rfl
  · split
    · next c => show G (14 + (q - 14)) = G q; congr 1; omega
    · split
      · next c => show G (20 + 15 * ((q - 20) / 15) + (q - 20) % 15) = G q; congr 1; omega
      · rfl
def cM_0 : Nat → Int32 := u1 Z_0 7 (-1)
def G_1 : Nat → Int32 := u1 (u1 (u1 (u1 (u1 (u1 (u1 Z_0 0 5) 1 10) 2 4) 3 10) 4 20) 5 1) 6 7
def G_2 : Nat → Int32 := enc 1 0 (P_addW (Rd G_1) 0 100) G_1
def G_3 : Nat → Int32 := enc 2 0 (P_addW (Rd G_2) 1 500) G_2
def G_4 : Nat → Int32 := enc 3 0 (P_addW (Rd G_3) 2 2000) G_3
def nm4 (N : Nat → Int32) (a b c d : Int32) : Nat → Int32 := u1 (u1 (u1 (u1 N 0 a) 1 b) 2 c) 3 d
def nm8 (N : Nat → Int32) (a b c d : Int32) : Nat → Int32 := u1 (u1 (u1 (u1 N 4 a) 5 b) 6 c) 7 d
def N_1 : Nat → Int32 := nm8 (nm4 Z_0 100 0 0 2) 250 10 20 3
def N_2 : Nat → Int32 := nm8 (nm4 N_1 50 30 0 0) 1000 4 0 0
def N_3 : Nat → Int32 := nm8 (nm4 N_2 200 (-20) 10 (-1)) 100 30 0 5
def adS (sc : Nat) (G N : Nat → Int32) : Nat → Int32 := u1 (u1 (u1 (u1 (addG 3 sc (Rd G) G N 8) (20 + 15 * sc + 10) (-1)) (20 + 15 * sc + 12) 1) 12 (G 12 + N 0)) 8 (nI (sc + 1))
def G_5 : Nat → Int32 := adS 0 G_4 N_1
def G_6 : Nat → Int32 := adS 1 G_5 N_2
def G_7 : Nat → Int32 := adS 2 G_6 N_3
set_option maxRecDepth 100000 in
theorem G_7_eq : ∀ q, q < 140 → enc 3 3 Y_0.2.2.2 G_7 q = G_7 q := by decide +kernel
set_option maxRecDepth 100000 in
theorem G_7_12 : G_7 12 = P_money Y_0.2.2.2.2.2 3 := by decide +kernel
theorem G_w7 : (Rd G_1).1 7 = nI 0 ∧ (Rd G_2).1 7 = nI 1 ∧ (Rd G_3).1 7 = nI 2 := by decide +kernel
theorem G_s8 : (Rd G_4).1 8 = nI 0 ∧ (Rd G_5).1 8 = nI 1 ∧ (Rd G_6).1 8 = nI 2 := by decide +kernel
theorem wdR_72 : SBn wdR Z_0 72 = wdR := by
  funext j
  unfold SBn
  by_cases c : j < 72
  · rw [if_pos c]
  · rw [if_neg c]
    unfold wdR
    rw [List.getD_eq_getElem?_getD, List.getElem?_eq_none (show wdT.length ≤ j by show 72 ≤ j; omega)]
    rfl
theorem sbn_put {k : Nat} {v : Int32} (hv : v = wdR k) : u1 (SBn wdR Z_0 k) k v = SBn wdR Z_0 (k + 1) := by rw [hv]; exact SBn_S wdR Z_0 k
theorem ac_z : Cond.arrayClass (aTy 22) ∈ tG := tg_7 145 rfl rfl
theorem ac_c : Cond.arrayClass (aTy 23) ∈ tG := tg_7 146 rfl rfl
theorem ns {h : Hp} {m a k kd N : Nat} (ha : hK h a = 0) (lm : hK h m ≠ 0) : a ≠ m ∧ Kp m h (sR (hNew h a kd N) m k (some a)) ∧ (∀ j, j ≠ k → hR (sR (hNew h a kd N) m k (some a)) m j = hR h m j) ∧ hR (sR (hNew h a kd N) m k (some a)) m k = some a ∧ hK (sR (hNew h a kd N) m k (some a)) a = kd ∧ hL (sR (hNew h a kd N) m k (some a)) a = N ∧ (hI (sR (hNew h a kd N) m k (some a)) a = Z_0) ∧ hK (hNew h a kd N) m = hK h m := by
  have n : a ≠ m := fun z => lm (z ▸ ha)
  obtain ⟨x1, x2, x3⟩ := xs (k := k) (a := some a) (Ext.r.new (k := kd) (n := N) ha) lm
  exact ⟨n, x1, x2, x3, by rw [hK_sR9, hK_new, if_pos rfl], by rw [hL_sR9, hL_new, if_pos rfl], by rw [hI_sR9, hI_new, if_pos rfl]; rfl, by rw [hK_new, if_neg (Ne.symm n)]⟩
theorem wL1_self {h : Hp} {a : Nat} {f : Nat → Int32} (e : hI h a = f) : h = wL h ((a, f) :: []) := by
  have k := wL_self (h := h) (L := [a])
  simp only [List.map] at k
  rw [e] at k
  exact k.symm
theorem wL6_self {h : Hp} {a b c d e f : Nat} {fa fb fc fd fe ff : Nat → Int32} (ea : hI h a = fa) (eb : hI h b = fb) (ec : hI h c = fc) (ed : hI h d = fd) (ee : hI h e = fe) (ef : hI h f = ff) : h = wL h ((a, fa) :: (b, fb) :: (c, fc) :: (d, fd) :: (e, fe) :: (f, ff) :: []) := by
  have k := wL_self (h := h) (L := [a, b, c, d, e, f])
  simp only [List.map] at k
  rw [ea, eb, ec, ed, ee, ef] at k
  exact k.symm
theorem oi_MO_init : Cond.methodLink (mY m_MO_init).cls 1 objectInit ∈ tG ∧ Cond.instanceMethod objectInit ∈ tG ∧ Cond.code objectInit ⟨#[0xb1]⟩ 1 none ∈ tG := ⟨tg_7 66 rfl rfl, tg_1 36 rfl rfl, tg_1 37 rfl rfl⟩
theorem d_MO_init_0 : decode (mC m_MO_init) 0 = .ok (.aload_n 0, 1) := by decide +kernel
theorem d_MO_init_1 : decode (mC m_MO_init) 1 = .ok (.invokespecial 1, 3) := by decide +kernel
theorem d_MO_init_4 : decode (mC m_MO_init) 4 = .ok (.aload_n 0, 1) := by decide +kernel
theorem d_MO_init_5 : decode (mC m_MO_init) 5 = .ok (.sipush 1820, 3) := by decide +kernel
theorem d_MO_init_8 : decode (mC m_MO_init) 8 = .ok (.newarray .int, 2) := by decide +kernel
theorem d_MO_init_10 : decode (mC m_MO_init) 10 = .ok (.putfield 7, 3) := by decide +kernel
theorem d_MO_init_13 : decode (mC m_MO_init) 13 = .ok (.aload_n 0, 1) := by decide +kernel
theorem d_MO_init_14 : decode (mC m_MO_init) 14 = .ok (.iconst 2, 1) := by decide +kernel
theorem d_MO_init_15 : decode (mC m_MO_init) 15 = .ok (.newarray .boolean, 2) := by decide +kernel
theorem d_MO_init_17 : decode (mC m_MO_init) 17 = .ok (.putfield 13, 3) := by decide +kernel
theorem d_MO_init_20 : decode (mC m_MO_init) 20 = .ok (.aload_n 0, 1) := by decide +kernel
theorem d_MO_init_21 : decode (mC m_MO_init) 21 = .ok (.sipush 500, 3) := by decide +kernel
theorem d_MO_init_24 : decode (mC m_MO_init) 24 = .ok (.newarray .byte, 2) := by decide +kernel
theorem d_MO_init_26 : decode (mC m_MO_init) 26 = .ok (.putfield 17, 3) := by decide +kernel
theorem d_MO_init_29 : decode (mC m_MO_init) 29 = .ok (.aload_n 0, 1) := by decide +kernel
theorem d_MO_init_30 : decode (mC m_MO_init) 30 = .ok (.iconst (-1), 1) := by decide +kernel
theorem d_MO_init_31 : decode (mC m_MO_init) 31 = .ok (.putfield 21, 3) := by decide +kernel
theorem d_MO_init_34 : decode (mC m_MO_init) 34 = .ok (.aload_n 0, 1) := by decide +kernel
theorem d_MO_init_35 : decode (mC m_MO_init) 35 = .ok (.bipush 8, 2) := by decide +kernel
theorem d_MO_init_37 : decode (mC m_MO_init) 37 = .ok (.newarray .int, 2) := by decide +kernel
theorem d_MO_init_39 : decode (mC m_MO_init) 39 = .ok (.putfield 25, 3) := by decide +kernel
theorem d_MO_init_42 : decode (mC m_MO_init) 42 = .ok (.aload_n 0, 1) := by decide +kernel
theorem d_MO_init_43 : decode (mC m_MO_init) 43 = .ok (.bipush 60, 2) := by decide +kernel
theorem d_MO_init_45 : decode (mC m_MO_init) 45 = .ok (.newarray .int, 2) := by decide +kernel
theorem d_MO_init_47 : decode (mC m_MO_init) 47 = .ok (.putfield 28, 3) := by decide +kernel
theorem d_MO_init_50 : decode (mC m_MO_init) 50 = .ok (.aload_n 0, 1) := by decide +kernel
theorem d_MO_init_51 : decode (mC m_MO_init) 51 = .ok (.sipush 200, 3) := by decide +kernel
theorem d_MO_init_54 : decode (mC m_MO_init) 54 = .ok (.newarray .byte, 2) := by decide +kernel
theorem d_MO_init_56 : decode (mC m_MO_init) 56 = .ok (.putfield 31, 3) := by decide +kernel
theorem d_MO_init_59 : decode (mC m_MO_init) 59 = .ok (.aload_n 0, 1) := by decide +kernel
theorem d_MO_init_60 : decode (mC m_MO_init) 60 = .ok (.bipush 72, 2) := by decide +kernel
theorem d_MO_init_62 : decode (mC m_MO_init) 62 = .ok (.newarray .char, 2) := by decide +kernel
theorem d_MO_init_64 : decode (mC m_MO_init) 64 = .ok (.dup, 1) := by decide +kernel
theorem d_MO_init_65 : decode (mC m_MO_init) 65 = .ok (.iconst 0, 1) := by decide +kernel
theorem d_MO_init_66 : decode (mC m_MO_init) 66 = .ok (.bipush 98, 2) := by decide +kernel
theorem d_MO_init_68 : decode (mC m_MO_init) 68 = .ok (.castore, 1) := by decide +kernel
theorem d_MO_init_69 : decode (mC m_MO_init) 69 = .ok (.dup, 1) := by decide +kernel
theorem d_MO_init_70 : decode (mC m_MO_init) 70 = .ok (.iconst 1, 1) := by decide +kernel
theorem d_MO_init_71 : decode (mC m_MO_init) 71 = .ok (.bipush 117, 2) := by decide +kernel
theorem d_MO_init_73 : decode (mC m_MO_init) 73 = .ok (.castore, 1) := by decide +kernel
theorem d_MO_init_74 : decode (mC m_MO_init) 74 = .ok (.dup, 1) := by decide +kernel
theorem d_MO_init_75 : decode (mC m_MO_init) 75 = .ok (.iconst 2, 1) := by decide +kernel
theorem d_MO_init_76 : decode (mC m_MO_init) 76 = .ok (.bipush 114, 2) := by decide +kernel
theorem d_MO_init_78 : decode (mC m_MO_init) 78 = .ok (.castore, 1) := by decide +kernel
theorem d_MO_init_79 : decode (mC m_MO_init) 79 = .ok (.dup, 1) := by decide +kernel
theorem d_MO_init_80 : decode (mC m_MO_init) 80 = .ok (.iconst 3, 1) := by decide +kernel
theorem d_MO_init_81 : decode (mC m_MO_init) 81 = .ok (.bipush 101, 2) := by decide +kernel
theorem d_MO_init_83 : decode (mC m_MO_init) 83 = .ok (.castore, 1) := by decide +kernel
theorem d_MO_init_84 : decode (mC m_MO_init) 84 = .ok (.dup, 1) := by decide +kernel
theorem d_MO_init_85 : decode (mC m_MO_init) 85 = .ok (.iconst 4, 1) := by decide +kernel
theorem d_MO_init_86 : decode (mC m_MO_init) 86 = .ok (.bipush 97, 2) := by decide +kernel
theorem d_MO_init_88 : decode (mC m_MO_init) 88 = .ok (.castore, 1) := by decide +kernel
theorem d_MO_init_89 : decode (mC m_MO_init) 89 = .ok (.dup, 1) := by decide +kernel
theorem d_MO_init_90 : decode (mC m_MO_init) 90 = .ok (.iconst 5, 1) := by decide +kernel
theorem d_MO_init_91 : decode (mC m_MO_init) 91 = .ok (.bipush 117, 2) := by decide +kernel
theorem d_MO_init_93 : decode (mC m_MO_init) 93 = .ok (.castore, 1) := by decide +kernel
theorem d_MO_init_94 : decode (mC m_MO_init) 94 = .ok (.dup, 1) := by decide +kernel
theorem d_MO_init_95 : decode (mC m_MO_init) 95 = .ok (.bipush 6, 2) := by decide +kernel
theorem d_MO_init_97 : decode (mC m_MO_init) 97 = .ok (.bipush 32, 2) := by decide +kernel
theorem d_MO_init_99 : decode (mC m_MO_init) 99 = .ok (.castore, 1) := by decide +kernel
theorem d_MO_init_100 : decode (mC m_MO_init) 100 = .ok (.dup, 1) := by decide +kernel
theorem d_MO_init_101 : decode (mC m_MO_init) 101 = .ok (.bipush 7, 2) := by decide +kernel
theorem d_MO_init_103 : decode (mC m_MO_init) 103 = .ok (.bipush 32, 2) := by decide +kernel
theorem d_MO_init_105 : decode (mC m_MO_init) 105 = .ok (.castore, 1) := by decide +kernel
theorem d_MO_init_106 : decode (mC m_MO_init) 106 = .ok (.dup, 1) := by decide +kernel
theorem d_MO_init_107 : decode (mC m_MO_init) 107 = .ok (.bipush 8, 2) := by decide +kernel
theorem d_MO_init_109 : decode (mC m_MO_init) 109 = .ok (.bipush 119, 2) := by decide +kernel
theorem d_MO_init_111 : decode (mC m_MO_init) 111 = .ok (.castore, 1) := by decide +kernel
theorem d_MO_init_112 : decode (mC m_MO_init) 112 = .ok (.dup, 1) := by decide +kernel
theorem d_MO_init_113 : decode (mC m_MO_init) 113 = .ok (.bipush 9, 2) := by decide +kernel
theorem d_MO_init_115 : decode (mC m_MO_init) 115 = .ok (.bipush 101, 2) := by decide +kernel
theorem d_MO_init_117 : decode (mC m_MO_init) 117 = .ok (.castore, 1) := by decide +kernel
theorem d_MO_init_118 : decode (mC m_MO_init) 118 = .ok (.dup, 1) := by decide +kernel
theorem d_MO_init_119 : decode (mC m_MO_init) 119 = .ok (.bipush 10, 2) := by decide +kernel
theorem d_MO_init_121 : decode (mC m_MO_init) 121 = .ok (.bipush 105, 2) := by decide +kernel
theorem d_MO_init_123 : decode (mC m_MO_init) 123 = .ok (.castore, 1) := by decide +kernel
theorem d_MO_init_124 : decode (mC m_MO_init) 124 = .ok (.dup, 1) := by decide +kernel
theorem d_MO_init_125 : decode (mC m_MO_init) 125 = .ok (.bipush 11, 2) := by decide +kernel
theorem d_MO_init_127 : decode (mC m_MO_init) 127 = .ok (.bipush 103, 2) := by decide +kernel
theorem d_MO_init_129 : decode (mC m_MO_init) 129 = .ok (.castore, 1) := by decide +kernel
theorem d_MO_init_130 : decode (mC m_MO_init) 130 = .ok (.dup, 1) := by decide +kernel
theorem d_MO_init_131 : decode (mC m_MO_init) 131 = .ok (.bipush 12, 2) := by decide +kernel
theorem d_MO_init_133 : decode (mC m_MO_init) 133 = .ok (.bipush 104, 2) := by decide +kernel
theorem d_MO_init_135 : decode (mC m_MO_init) 135 = .ok (.castore, 1) := by decide +kernel
theorem d_MO_init_136 : decode (mC m_MO_init) 136 = .ok (.dup, 1) := by decide +kernel
theorem d_MO_init_137 : decode (mC m_MO_init) 137 = .ok (.bipush 13, 2) := by decide +kernel
theorem d_MO_init_139 : decode (mC m_MO_init) 139 = .ok (.bipush 116, 2) := by decide +kernel
theorem d_MO_init_141 : decode (mC m_MO_init) 141 = .ok (.castore, 1) := by decide +kernel
theorem d_MO_init_142 : decode (mC m_MO_init) 142 = .ok (.dup, 1) := by decide +kernel
theorem d_MO_init_143 : decode (mC m_MO_init) 143 = .ok (.bipush 14, 2) := by decide +kernel
theorem d_MO_init_145 : decode (mC m_MO_init) 145 = .ok (.bipush 115, 2) := by decide +kernel
theorem d_MO_init_147 : decode (mC m_MO_init) 147 = .ok (.castore, 1) := by decide +kernel
theorem d_MO_init_148 : decode (mC m_MO_init) 148 = .ok (.dup, 1) := by decide +kernel
theorem d_MO_init_149 : decode (mC m_MO_init) 149 = .ok (.bipush 15, 2) := by decide +kernel
theorem d_MO_init_151 : decode (mC m_MO_init) 151 = .ok (.bipush 32, 2) := by decide +kernel
theorem d_MO_init_153 : decode (mC m_MO_init) 153 = .ok (.castore, 1) := by decide +kernel
theorem d_MO_init_154 : decode (mC m_MO_init) 154 = .ok (.dup, 1) := by decide +kernel
theorem d_MO_init_155 : decode (mC m_MO_init) 155 = .ok (.bipush 16, 2) := by decide +kernel
theorem d_MO_init_157 : decode (mC m_MO_init) 157 = .ok (.bipush 115, 2) := by decide +kernel
theorem d_MO_init_159 : decode (mC m_MO_init) 159 = .ok (.castore, 1) := by decide +kernel
theorem d_MO_init_160 : decode (mC m_MO_init) 160 = .ok (.dup, 1) := by decide +kernel
theorem d_MO_init_161 : decode (mC m_MO_init) 161 = .ok (.bipush 17, 2) := by decide +kernel
theorem d_MO_init_163 : decode (mC m_MO_init) 163 = .ok (.bipush 104, 2) := by decide +kernel
theorem d_MO_init_165 : decode (mC m_MO_init) 165 = .ok (.castore, 1) := by decide +kernel
theorem d_MO_init_166 : decode (mC m_MO_init) 166 = .ok (.dup, 1) := by decide +kernel
theorem d_MO_init_167 : decode (mC m_MO_init) 167 = .ok (.bipush 18, 2) := by decide +kernel
theorem d_MO_init_169 : decode (mC m_MO_init) 169 = .ok (.bipush 111, 2) := by decide +kernel
theorem d_MO_init_171 : decode (mC m_MO_init) 171 = .ok (.castore, 1) := by decide +kernel
theorem d_MO_init_172 : decode (mC m_MO_init) 172 = .ok (.dup, 1) := by decide +kernel
theorem d_MO_init_173 : decode (mC m_MO_init) 173 = .ok (.bipush 19, 2) := by decide +kernel
theorem d_MO_init_175 : decode (mC m_MO_init) 175 = .ok (.bipush 112, 2) := by decide +kernel
theorem d_MO_init_177 : decode (mC m_MO_init) 177 = .ok (.castore, 1) := by decide +kernel
theorem d_MO_init_178 : decode (mC m_MO_init) 178 = .ok (.dup, 1) := by decide +kernel
theorem d_MO_init_179 : decode (mC m_MO_init) 179 = .ok (.bipush 20, 2) := by decide +kernel
theorem d_MO_init_181 : decode (mC m_MO_init) 181 = .ok (.bipush 32, 2) := by decide +kernel
theorem d_MO_init_183 : decode (mC m_MO_init) 183 = .ok (.castore, 1) := by decide +kernel
theorem d_MO_init_184 : decode (mC m_MO_init) 184 = .ok (.dup, 1) := by decide +kernel
theorem d_MO_init_185 : decode (mC m_MO_init) 185 = .ok (.bipush 21, 2) := by decide +kernel
theorem d_MO_init_187 : decode (mC m_MO_init) 187 = .ok (.bipush 32, 2) := by decide +kernel
theorem d_MO_init_189 : decode (mC m_MO_init) 189 = .ok (.castore, 1) := by decide +kernel
theorem d_MO_init_190 : decode (mC m_MO_init) 190 = .ok (.dup, 1) := by decide +kernel
theorem d_MO_init_191 : decode (mC m_MO_init) 191 = .ok (.bipush 22, 2) := by decide +kernel
theorem d_MO_init_193 : decode (mC m_MO_init) 193 = .ok (.bipush 32, 2) := by decide +kernel
theorem d_MO_init_195 : decode (mC m_MO_init) 195 = .ok (.castore, 1) := by decide +kernel
theorem d_MO_init_196 : decode (mC m_MO_init) 196 = .ok (.dup, 1) := by decide +kernel
theorem d_MO_init_197 : decode (mC m_MO_init) 197 = .ok (.bipush 23, 2) := by decide +kernel
theorem d_MO_init_199 : decode (mC m_MO_init) 199 = .ok (.bipush 32, 2) := by decide +kernel
theorem d_MO_init_201 : decode (mC m_MO_init) 201 = .ok (.castore, 1) := by decide +kernel
theorem d_MO_init_202 : decode (mC m_MO_init) 202 = .ok (.dup, 1) := by decide +kernel
theorem d_MO_init_203 : decode (mC m_MO_init) 203 = .ok (.bipush 24, 2) := by decide +kernel
theorem d_MO_init_205 : decode (mC m_MO_init) 205 = .ok (.bipush 100, 2) := by decide +kernel
theorem d_MO_init_207 : decode (mC m_MO_init) 207 = .ok (.castore, 1) := by decide +kernel
theorem d_MO_init_208 : decode (mC m_MO_init) 208 = .ok (.dup, 1) := by decide +kernel
theorem d_MO_init_209 : decode (mC m_MO_init) 209 = .ok (.bipush 25, 2) := by decide +kernel
theorem d_MO_init_211 : decode (mC m_MO_init) 211 = .ok (.bipush 97, 2) := by decide +kernel
theorem d_MO_init_213 : decode (mC m_MO_init) 213 = .ok (.castore, 1) := by decide +kernel
theorem d_MO_init_214 : decode (mC m_MO_init) 214 = .ok (.dup, 1) := by decide +kernel
theorem d_MO_init_215 : decode (mC m_MO_init) 215 = .ok (.bipush 26, 2) := by decide +kernel
theorem d_MO_init_217 : decode (mC m_MO_init) 217 = .ok (.bipush 121, 2) := by decide +kernel
theorem d_MO_init_219 : decode (mC m_MO_init) 219 = .ok (.castore, 1) := by decide +kernel
theorem d_MO_init_220 : decode (mC m_MO_init) 220 = .ok (.dup, 1) := by decide +kernel
theorem d_MO_init_221 : decode (mC m_MO_init) 221 = .ok (.bipush 27, 2) := by decide +kernel
theorem d_MO_init_223 : decode (mC m_MO_init) 223 = .ok (.bipush 115, 2) := by decide +kernel
theorem d_MO_init_225 : decode (mC m_MO_init) 225 = .ok (.castore, 1) := by decide +kernel
theorem d_MO_init_226 : decode (mC m_MO_init) 226 = .ok (.dup, 1) := by decide +kernel
theorem d_MO_init_227 : decode (mC m_MO_init) 227 = .ok (.bipush 28, 2) := by decide +kernel
theorem d_MO_init_229 : decode (mC m_MO_init) 229 = .ok (.bipush 32, 2) := by decide +kernel
theorem d_MO_init_231 : decode (mC m_MO_init) 231 = .ok (.castore, 1) := by decide +kernel
theorem d_MO_init_232 : decode (mC m_MO_init) 232 = .ok (.dup, 1) := by decide +kernel
theorem d_MO_init_233 : decode (mC m_MO_init) 233 = .ok (.bipush 29, 2) := by decide +kernel
theorem d_MO_init_235 : decode (mC m_MO_init) 235 = .ok (.bipush 32, 2) := by decide +kernel
theorem d_MO_init_237 : decode (mC m_MO_init) 237 = .ok (.castore, 1) := by decide +kernel
theorem d_MO_init_238 : decode (mC m_MO_init) 238 = .ok (.dup, 1) := by decide +kernel
theorem d_MO_init_239 : decode (mC m_MO_init) 239 = .ok (.bipush 30, 2) := by decide +kernel
theorem d_MO_init_241 : decode (mC m_MO_init) 241 = .ok (.bipush 32, 2) := by decide +kernel
theorem d_MO_init_243 : decode (mC m_MO_init) 243 = .ok (.castore, 1) := by decide +kernel
theorem d_MO_init_244 : decode (mC m_MO_init) 244 = .ok (.dup, 1) := by decide +kernel
theorem d_MO_init_245 : decode (mC m_MO_init) 245 = .ok (.bipush 31, 2) := by decide +kernel
theorem d_MO_init_247 : decode (mC m_MO_init) 247 = .ok (.bipush 32, 2) := by decide +kernel
theorem d_MO_init_249 : decode (mC m_MO_init) 249 = .ok (.castore, 1) := by decide +kernel
theorem d_MO_init_250 : decode (mC m_MO_init) 250 = .ok (.dup, 1) := by decide +kernel
theorem d_MO_init_251 : decode (mC m_MO_init) 251 = .ok (.bipush 32, 2) := by decide +kernel
theorem d_MO_init_253 : decode (mC m_MO_init) 253 = .ok (.bipush 118, 2) := by decide +kernel
theorem d_MO_init_255 : decode (mC m_MO_init) 255 = .ok (.castore, 1) := by decide +kernel
theorem d_MO_init_256 : decode (mC m_MO_init) 256 = .ok (.dup, 1) := by decide +kernel
theorem d_MO_init_257 : decode (mC m_MO_init) 257 = .ok (.bipush 33, 2) := by decide +kernel
theorem d_MO_init_259 : decode (mC m_MO_init) 259 = .ok (.bipush 105, 2) := by decide +kernel
theorem d_MO_init_261 : decode (mC m_MO_init) 261 = .ok (.castore, 1) := by decide +kernel
theorem d_MO_init_262 : decode (mC m_MO_init) 262 = .ok (.dup, 1) := by decide +kernel
theorem d_MO_init_263 : decode (mC m_MO_init) 263 = .ok (.bipush 34, 2) := by decide +kernel
theorem d_MO_init_265 : decode (mC m_MO_init) 265 = .ok (.bipush 115, 2) := by decide +kernel
theorem d_MO_init_267 : decode (mC m_MO_init) 267 = .ok (.castore, 1) := by decide +kernel
theorem d_MO_init_268 : decode (mC m_MO_init) 268 = .ok (.dup, 1) := by decide +kernel
theorem d_MO_init_269 : decode (mC m_MO_init) 269 = .ok (.bipush 35, 2) := by decide +kernel
theorem d_MO_init_271 : decode (mC m_MO_init) 271 = .ok (.bipush 105, 2) := by decide +kernel
theorem d_MO_init_273 : decode (mC m_MO_init) 273 = .ok (.castore, 1) := by decide +kernel
theorem d_MO_init_274 : decode (mC m_MO_init) 274 = .ok (.dup, 1) := by decide +kernel
theorem d_MO_init_275 : decode (mC m_MO_init) 275 = .ok (.bipush 36, 2) := by decide +kernel
theorem d_MO_init_277 : decode (mC m_MO_init) 277 = .ok (.bipush 116, 2) := by decide +kernel
theorem d_MO_init_279 : decode (mC m_MO_init) 279 = .ok (.castore, 1) := by decide +kernel
theorem d_MO_init_280 : decode (mC m_MO_init) 280 = .ok (.dup, 1) := by decide +kernel
theorem d_MO_init_281 : decode (mC m_MO_init) 281 = .ok (.bipush 37, 2) := by decide +kernel
theorem d_MO_init_283 : decode (mC m_MO_init) 283 = .ok (.bipush 32, 2) := by decide +kernel
theorem d_MO_init_285 : decode (mC m_MO_init) 285 = .ok (.castore, 1) := by decide +kernel
theorem d_MO_init_286 : decode (mC m_MO_init) 286 = .ok (.dup, 1) := by decide +kernel
theorem d_MO_init_287 : decode (mC m_MO_init) 287 = .ok (.bipush 38, 2) := by decide +kernel
theorem d_MO_init_289 : decode (mC m_MO_init) 289 = .ok (.bipush 32, 2) := by decide +kernel
theorem d_MO_init_291 : decode (mC m_MO_init) 291 = .ok (.castore, 1) := by decide +kernel
theorem d_MO_init_292 : decode (mC m_MO_init) 292 = .ok (.dup, 1) := by decide +kernel
theorem d_MO_init_293 : decode (mC m_MO_init) 293 = .ok (.bipush 39, 2) := by decide +kernel
theorem d_MO_init_295 : decode (mC m_MO_init) 295 = .ok (.bipush 32, 2) := by decide +kernel
theorem d_MO_init_297 : decode (mC m_MO_init) 297 = .ok (.castore, 1) := by decide +kernel
theorem d_MO_init_298 : decode (mC m_MO_init) 298 = .ok (.dup, 1) := by decide +kernel
theorem d_MO_init_299 : decode (mC m_MO_init) 299 = .ok (.bipush 40, 2) := by decide +kernel
theorem d_MO_init_301 : decode (mC m_MO_init) 301 = .ok (.bipush 114, 2) := by decide +kernel
theorem d_MO_init_303 : decode (mC m_MO_init) 303 = .ok (.castore, 1) := by decide +kernel
theorem d_MO_init_304 : decode (mC m_MO_init) 304 = .ok (.dup, 1) := by decide +kernel
theorem d_MO_init_305 : decode (mC m_MO_init) 305 = .ok (.bipush 41, 2) := by decide +kernel
theorem d_MO_init_307 : decode (mC m_MO_init) 307 = .ok (.bipush 101, 2) := by decide +kernel
theorem d_MO_init_309 : decode (mC m_MO_init) 309 = .ok (.castore, 1) := by decide +kernel
theorem d_MO_init_310 : decode (mC m_MO_init) 310 = .ok (.dup, 1) := by decide +kernel
theorem d_MO_init_311 : decode (mC m_MO_init) 311 = .ok (.bipush 42, 2) := by decide +kernel
theorem d_MO_init_313 : decode (mC m_MO_init) 313 = .ok (.bipush 112, 2) := by decide +kernel
theorem d_MO_init_315 : decode (mC m_MO_init) 315 = .ok (.castore, 1) := by decide +kernel
theorem d_MO_init_316 : decode (mC m_MO_init) 316 = .ok (.dup, 1) := by decide +kernel
theorem d_MO_init_317 : decode (mC m_MO_init) 317 = .ok (.bipush 43, 2) := by decide +kernel
theorem d_MO_init_319 : decode (mC m_MO_init) 319 = .ok (.bipush 97, 2) := by decide +kernel
theorem d_MO_init_321 : decode (mC m_MO_init) 321 = .ok (.castore, 1) := by decide +kernel
theorem d_MO_init_322 : decode (mC m_MO_init) 322 = .ok (.dup, 1) := by decide +kernel
theorem d_MO_init_323 : decode (mC m_MO_init) 323 = .ok (.bipush 44, 2) := by decide +kernel
theorem d_MO_init_325 : decode (mC m_MO_init) 325 = .ok (.bipush 105, 2) := by decide +kernel
theorem d_MO_init_327 : decode (mC m_MO_init) 327 = .ok (.castore, 1) := by decide +kernel
theorem d_MO_init_328 : decode (mC m_MO_init) 328 = .ok (.dup, 1) := by decide +kernel
theorem d_MO_init_329 : decode (mC m_MO_init) 329 = .ok (.bipush 45, 2) := by decide +kernel
theorem d_MO_init_331 : decode (mC m_MO_init) 331 = .ok (.bipush 114, 2) := by decide +kernel
theorem d_MO_init_333 : decode (mC m_MO_init) 333 = .ok (.castore, 1) := by decide +kernel
theorem d_MO_init_334 : decode (mC m_MO_init) 334 = .ok (.dup, 1) := by decide +kernel
theorem d_MO_init_335 : decode (mC m_MO_init) 335 = .ok (.bipush 46, 2) := by decide +kernel
theorem d_MO_init_337 : decode (mC m_MO_init) 337 = .ok (.bipush 32, 2) := by decide +kernel
theorem d_MO_init_339 : decode (mC m_MO_init) 339 = .ok (.castore, 1) := by decide +kernel
theorem d_MO_init_340 : decode (mC m_MO_init) 340 = .ok (.dup, 1) := by decide +kernel
theorem d_MO_init_341 : decode (mC m_MO_init) 341 = .ok (.bipush 47, 2) := by decide +kernel
theorem d_MO_init_343 : decode (mC m_MO_init) 343 = .ok (.bipush 32, 2) := by decide +kernel
theorem d_MO_init_345 : decode (mC m_MO_init) 345 = .ok (.castore, 1) := by decide +kernel
theorem d_MO_init_346 : decode (mC m_MO_init) 346 = .ok (.dup, 1) := by decide +kernel
theorem d_MO_init_347 : decode (mC m_MO_init) 347 = .ok (.bipush 48, 2) := by decide +kernel
theorem d_MO_init_349 : decode (mC m_MO_init) 349 = .ok (.bipush 116, 2) := by decide +kernel
theorem d_MO_init_351 : decode (mC m_MO_init) 351 = .ok (.castore, 1) := by decide +kernel
theorem d_MO_init_352 : decode (mC m_MO_init) 352 = .ok (.dup, 1) := by decide +kernel
theorem d_MO_init_353 : decode (mC m_MO_init) 353 = .ok (.bipush 49, 2) := by decide +kernel
theorem d_MO_init_355 : decode (mC m_MO_init) 355 = .ok (.bipush 104, 2) := by decide +kernel
theorem d_MO_init_357 : decode (mC m_MO_init) 357 = .ok (.castore, 1) := by decide +kernel
theorem d_MO_init_358 : decode (mC m_MO_init) 358 = .ok (.dup, 1) := by decide +kernel
theorem d_MO_init_359 : decode (mC m_MO_init) 359 = .ok (.bipush 50, 2) := by decide +kernel
theorem d_MO_init_361 : decode (mC m_MO_init) 361 = .ok (.bipush 117, 2) := by decide +kernel
theorem d_MO_init_363 : decode (mC m_MO_init) 363 = .ok (.castore, 1) := by decide +kernel
theorem d_MO_init_364 : decode (mC m_MO_init) 364 = .ok (.dup, 1) := by decide +kernel
theorem d_MO_init_365 : decode (mC m_MO_init) 365 = .ok (.bipush 51, 2) := by decide +kernel
theorem d_MO_init_367 : decode (mC m_MO_init) 367 = .ok (.bipush 109, 2) := by decide +kernel
theorem d_MO_init_369 : decode (mC m_MO_init) 369 = .ok (.castore, 1) := by decide +kernel
theorem d_MO_init_370 : decode (mC m_MO_init) 370 = .ok (.dup, 1) := by decide +kernel
theorem d_MO_init_371 : decode (mC m_MO_init) 371 = .ok (.bipush 52, 2) := by decide +kernel
theorem d_MO_init_373 : decode (mC m_MO_init) 373 = .ok (.bipush 98, 2) := by decide +kernel
theorem d_MO_init_375 : decode (mC m_MO_init) 375 = .ok (.castore, 1) := by decide +kernel
theorem d_MO_init_376 : decode (mC m_MO_init) 376 = .ok (.dup, 1) := by decide +kernel
theorem d_MO_init_377 : decode (mC m_MO_init) 377 = .ok (.bipush 53, 2) := by decide +kernel
theorem d_MO_init_379 : decode (mC m_MO_init) 379 = .ok (.bipush 32, 2) := by decide +kernel
theorem d_MO_init_381 : decode (mC m_MO_init) 381 = .ok (.castore, 1) := by decide +kernel
theorem d_MO_init_382 : decode (mC m_MO_init) 382 = .ok (.dup, 1) := by decide +kernel
theorem d_MO_init_383 : decode (mC m_MO_init) 383 = .ok (.bipush 54, 2) := by decide +kernel
theorem d_MO_init_385 : decode (mC m_MO_init) 385 = .ok (.bipush 32, 2) := by decide +kernel
theorem d_MO_init_387 : decode (mC m_MO_init) 387 = .ok (.castore, 1) := by decide +kernel
theorem d_MO_init_388 : decode (mC m_MO_init) 388 = .ok (.dup, 1) := by decide +kernel
theorem d_MO_init_389 : decode (mC m_MO_init) 389 = .ok (.bipush 55, 2) := by decide +kernel
theorem d_MO_init_391 : decode (mC m_MO_init) 391 = .ok (.bipush 32, 2) := by decide +kernel
theorem d_MO_init_393 : decode (mC m_MO_init) 393 = .ok (.castore, 1) := by decide +kernel
theorem d_MO_init_394 : decode (mC m_MO_init) 394 = .ok (.dup, 1) := by decide +kernel
theorem d_MO_init_395 : decode (mC m_MO_init) 395 = .ok (.bipush 56, 2) := by decide +kernel
theorem d_MO_init_397 : decode (mC m_MO_init) 397 = .ok (.bipush 99, 2) := by decide +kernel
theorem d_MO_init_399 : decode (mC m_MO_init) 399 = .ok (.castore, 1) := by decide +kernel
theorem d_MO_init_400 : decode (mC m_MO_init) 400 = .ok (.dup, 1) := by decide +kernel
theorem d_MO_init_401 : decode (mC m_MO_init) 401 = .ok (.bipush 57, 2) := by decide +kernel
theorem d_MO_init_403 : decode (mC m_MO_init) 403 = .ok (.bipush 111, 2) := by decide +kernel
theorem d_MO_init_405 : decode (mC m_MO_init) 405 = .ok (.castore, 1) := by decide +kernel
theorem d_MO_init_406 : decode (mC m_MO_init) 406 = .ok (.dup, 1) := by decide +kernel
theorem d_MO_init_407 : decode (mC m_MO_init) 407 = .ok (.bipush 58, 2) := by decide +kernel
theorem d_MO_init_409 : decode (mC m_MO_init) 409 = .ok (.bipush 109, 2) := by decide +kernel
theorem d_MO_init_411 : decode (mC m_MO_init) 411 = .ok (.castore, 1) := by decide +kernel
theorem d_MO_init_412 : decode (mC m_MO_init) 412 = .ok (.dup, 1) := by decide +kernel
theorem d_MO_init_413 : decode (mC m_MO_init) 413 = .ok (.bipush 59, 2) := by decide +kernel
theorem d_MO_init_415 : decode (mC m_MO_init) 415 = .ok (.bipush 112, 2) := by decide +kernel
theorem d_MO_init_417 : decode (mC m_MO_init) 417 = .ok (.castore, 1) := by decide +kernel
theorem d_MO_init_418 : decode (mC m_MO_init) 418 = .ok (.dup, 1) := by decide +kernel
theorem d_MO_init_419 : decode (mC m_MO_init) 419 = .ok (.bipush 60, 2) := by decide +kernel
theorem d_MO_init_421 : decode (mC m_MO_init) 421 = .ok (.bipush 108, 2) := by decide +kernel
theorem d_MO_init_423 : decode (mC m_MO_init) 423 = .ok (.castore, 1) := by decide +kernel
theorem d_MO_init_424 : decode (mC m_MO_init) 424 = .ok (.dup, 1) := by decide +kernel
theorem d_MO_init_425 : decode (mC m_MO_init) 425 = .ok (.bipush 61, 2) := by decide +kernel
theorem d_MO_init_427 : decode (mC m_MO_init) 427 = .ok (.bipush 97, 2) := by decide +kernel
theorem d_MO_init_429 : decode (mC m_MO_init) 429 = .ok (.castore, 1) := by decide +kernel
theorem d_MO_init_430 : decode (mC m_MO_init) 430 = .ok (.dup, 1) := by decide +kernel
theorem d_MO_init_431 : decode (mC m_MO_init) 431 = .ok (.bipush 62, 2) := by decide +kernel
theorem d_MO_init_433 : decode (mC m_MO_init) 433 = .ok (.bipush 105, 2) := by decide +kernel
theorem d_MO_init_435 : decode (mC m_MO_init) 435 = .ok (.castore, 1) := by decide +kernel
theorem d_MO_init_436 : decode (mC m_MO_init) 436 = .ok (.dup, 1) := by decide +kernel
theorem d_MO_init_437 : decode (mC m_MO_init) 437 = .ok (.bipush 63, 2) := by decide +kernel
theorem d_MO_init_439 : decode (mC m_MO_init) 439 = .ok (.bipush 110, 2) := by decide +kernel
theorem d_MO_init_441 : decode (mC m_MO_init) 441 = .ok (.castore, 1) := by decide +kernel
theorem d_MO_init_442 : decode (mC m_MO_init) 442 = .ok (.dup, 1) := by decide +kernel
theorem d_MO_init_443 : decode (mC m_MO_init) 443 = .ok (.bipush 64, 2) := by decide +kernel
theorem d_MO_init_445 : decode (mC m_MO_init) 445 = .ok (.bipush 111, 2) := by decide +kernel
theorem d_MO_init_447 : decode (mC m_MO_init) 447 = .ok (.castore, 1) := by decide +kernel
theorem d_MO_init_448 : decode (mC m_MO_init) 448 = .ok (.dup, 1) := by decide +kernel
theorem d_MO_init_449 : decode (mC m_MO_init) 449 = .ok (.bipush 65, 2) := by decide +kernel
theorem d_MO_init_451 : decode (mC m_MO_init) 451 = .ok (.bipush 112, 2) := by decide +kernel
theorem d_MO_init_453 : decode (mC m_MO_init) 453 = .ok (.castore, 1) := by decide +kernel
theorem d_MO_init_454 : decode (mC m_MO_init) 454 = .ok (.dup, 1) := by decide +kernel
theorem d_MO_init_455 : decode (mC m_MO_init) 455 = .ok (.bipush 66, 2) := by decide +kernel
theorem d_MO_init_457 : decode (mC m_MO_init) 457 = .ok (.bipush 101, 2) := by decide +kernel
theorem d_MO_init_459 : decode (mC m_MO_init) 459 = .ok (.castore, 1) := by decide +kernel
theorem d_MO_init_460 : decode (mC m_MO_init) 460 = .ok (.dup, 1) := by decide +kernel
theorem d_MO_init_461 : decode (mC m_MO_init) 461 = .ok (.bipush 67, 2) := by decide +kernel
theorem d_MO_init_463 : decode (mC m_MO_init) 463 = .ok (.bipush 110, 2) := by decide +kernel
theorem d_MO_init_465 : decode (mC m_MO_init) 465 = .ok (.castore, 1) := by decide +kernel
theorem d_MO_init_466 : decode (mC m_MO_init) 466 = .ok (.dup, 1) := by decide +kernel
theorem d_MO_init_467 : decode (mC m_MO_init) 467 = .ok (.bipush 68, 2) := by decide +kernel
theorem d_MO_init_469 : decode (mC m_MO_init) 469 = .ok (.bipush 32, 2) := by decide +kernel
theorem d_MO_init_471 : decode (mC m_MO_init) 471 = .ok (.castore, 1) := by decide +kernel
theorem d_MO_init_472 : decode (mC m_MO_init) 472 = .ok (.dup, 1) := by decide +kernel
theorem d_MO_init_473 : decode (mC m_MO_init) 473 = .ok (.bipush 69, 2) := by decide +kernel
theorem d_MO_init_475 : decode (mC m_MO_init) 475 = .ok (.bipush 32, 2) := by decide +kernel
theorem d_MO_init_477 : decode (mC m_MO_init) 477 = .ok (.castore, 1) := by decide +kernel
theorem d_MO_init_478 : decode (mC m_MO_init) 478 = .ok (.dup, 1) := by decide +kernel
theorem d_MO_init_479 : decode (mC m_MO_init) 479 = .ok (.bipush 70, 2) := by decide +kernel
theorem d_MO_init_481 : decode (mC m_MO_init) 481 = .ok (.bipush 32, 2) := by decide +kernel
theorem d_MO_init_483 : decode (mC m_MO_init) 483 = .ok (.castore, 1) := by decide +kernel
theorem d_MO_init_484 : decode (mC m_MO_init) 484 = .ok (.dup, 1) := by decide +kernel
theorem d_MO_init_485 : decode (mC m_MO_init) 485 = .ok (.bipush 71, 2) := by decide +kernel
theorem d_MO_init_487 : decode (mC m_MO_init) 487 = .ok (.bipush 32, 2) := by decide +kernel
theorem d_MO_init_489 : decode (mC m_MO_init) 489 = .ok (.castore, 1) := by decide +kernel
theorem d_MO_init_490 : decode (mC m_MO_init) 490 = .ok (.putfield 34, 3) := by decide +kernel
theorem d_MO_init_493 : decode (mC m_MO_init) 493 = .ok (.aload_n 0, 1) := by decide +kernel
theorem d_MO_init_494 : decode (mC m_MO_init) 494 = .ok (.getfield 7, 3) := by decide +kernel
theorem d_MO_init_497 : decode (mC m_MO_init) 497 = .ok (.iconst 0, 1) := by decide +kernel
theorem d_MO_init_498 : decode (mC m_MO_init) 498 = .ok (.iconst 5, 1) := by decide +kernel
theorem d_MO_init_499 : decode (mC m_MO_init) 499 = .ok (.iastore, 1) := by decide +kernel
theorem d_MO_init_500 : decode (mC m_MO_init) 500 = .ok (.aload_n 0, 1) := by decide +kernel
theorem d_MO_init_501 : decode (mC m_MO_init) 501 = .ok (.getfield 7, 3) := by decide +kernel
theorem d_MO_init_504 : decode (mC m_MO_init) 504 = .ok (.iconst 1, 1) := by decide +kernel
theorem d_MO_init_505 : decode (mC m_MO_init) 505 = .ok (.bipush 10, 2) := by decide +kernel
theorem d_MO_init_507 : decode (mC m_MO_init) 507 = .ok (.iastore, 1) := by decide +kernel
theorem d_MO_init_508 : decode (mC m_MO_init) 508 = .ok (.aload_n 0, 1) := by decide +kernel
theorem d_MO_init_509 : decode (mC m_MO_init) 509 = .ok (.getfield 7, 3) := by decide +kernel
theorem d_MO_init_512 : decode (mC m_MO_init) 512 = .ok (.iconst 2, 1) := by decide +kernel
theorem d_MO_init_513 : decode (mC m_MO_init) 513 = .ok (.iconst 4, 1) := by decide +kernel
theorem d_MO_init_514 : decode (mC m_MO_init) 514 = .ok (.iastore, 1) := by decide +kernel
theorem d_MO_init_515 : decode (mC m_MO_init) 515 = .ok (.aload_n 0, 1) := by decide +kernel
theorem d_MO_init_516 : decode (mC m_MO_init) 516 = .ok (.getfield 7, 3) := by decide +kernel
theorem d_MO_init_519 : decode (mC m_MO_init) 519 = .ok (.iconst 3, 1) := by decide +kernel
theorem d_MO_init_520 : decode (mC m_MO_init) 520 = .ok (.bipush 10, 2) := by decide +kernel
theorem d_MO_init_522 : decode (mC m_MO_init) 522 = .ok (.iastore, 1) := by decide +kernel
theorem d_MO_init_523 : decode (mC m_MO_init) 523 = .ok (.aload_n 0, 1) := by decide +kernel
theorem d_MO_init_524 : decode (mC m_MO_init) 524 = .ok (.getfield 7, 3) := by decide +kernel
theorem d_MO_init_527 : decode (mC m_MO_init) 527 = .ok (.iconst 4, 1) := by decide +kernel
theorem d_MO_init_528 : decode (mC m_MO_init) 528 = .ok (.bipush 20, 2) := by decide +kernel
theorem d_MO_init_530 : decode (mC m_MO_init) 530 = .ok (.iastore, 1) := by decide +kernel
theorem d_MO_init_531 : decode (mC m_MO_init) 531 = .ok (.aload_n 0, 1) := by decide +kernel
theorem d_MO_init_532 : decode (mC m_MO_init) 532 = .ok (.getfield 7, 3) := by decide +kernel
theorem d_MO_init_535 : decode (mC m_MO_init) 535 = .ok (.iconst 5, 1) := by decide +kernel
theorem d_MO_init_536 : decode (mC m_MO_init) 536 = .ok (.iconst 1, 1) := by decide +kernel
theorem d_MO_init_537 : decode (mC m_MO_init) 537 = .ok (.iastore, 1) := by decide +kernel
theorem d_MO_init_538 : decode (mC m_MO_init) 538 = .ok (.aload_n 0, 1) := by decide +kernel
theorem d_MO_init_539 : decode (mC m_MO_init) 539 = .ok (.getfield 7, 3) := by decide +kernel
theorem d_MO_init_542 : decode (mC m_MO_init) 542 = .ok (.bipush 6, 2) := by decide +kernel
theorem d_MO_init_544 : decode (mC m_MO_init) 544 = .ok (.bipush 7, 2) := by decide +kernel
theorem d_MO_init_546 : decode (mC m_MO_init) 546 = .ok (.iastore, 1) := by decide +kernel
theorem d_MO_init_547 : decode (mC m_MO_init) 547 = .ok (.aload_n 0, 1) := by decide +kernel
theorem d_MO_init_548 : decode (mC m_MO_init) 548 = .ok (.bipush 100, 2) := by decide +kernel
theorem d_MO_init_550 : decode (mC m_MO_init) 550 = .ok (.invokevirtual 38, 3) := by decide +kernel
theorem d_MO_init_553 : decode (mC m_MO_init) 553 = .ok (.aload_n 0, 1) := by decide +kernel
theorem d_MO_init_554 : decode (mC m_MO_init) 554 = .ok (.sipush 500, 3) := by decide +kernel
theorem d_MO_init_557 : decode (mC m_MO_init) 557 = .ok (.invokevirtual 38, 3) := by decide +kernel
theorem d_MO_init_560 : decode (mC m_MO_init) 560 = .ok (.aload_n 0, 1) := by decide +kernel
theorem d_MO_init_561 : decode (mC m_MO_init) 561 = .ok (.sipush 2000, 3) := by decide +kernel
theorem d_MO_init_564 : decode (mC m_MO_init) 564 = .ok (.invokevirtual 38, 3) := by decide +kernel
theorem d_MO_init_567 : decode (mC m_MO_init) 567 = .ok (.aload_n 0, 1) := by decide +kernel
theorem d_MO_init_568 : decode (mC m_MO_init) 568 = .ok (.bipush 100, 2) := by decide +kernel
theorem d_MO_init_570 : decode (mC m_MO_init) 570 = .ok (.iconst 0, 1) := by decide +kernel
theorem d_MO_init_571 : decode (mC m_MO_init) 571 = .ok (.iconst 0, 1) := by decide +kernel
theorem d_MO_init_572 : decode (mC m_MO_init) 572 = .ok (.iconst 2, 1) := by decide +kernel
theorem d_MO_init_573 : decode (mC m_MO_init) 573 = .ok (.invokevirtual 42, 3) := by decide +kernel
theorem d_MO_init_576 : decode (mC m_MO_init) 576 = .ok (.aload_n 0, 1) := by decide +kernel
theorem d_MO_init_577 : decode (mC m_MO_init) 577 = .ok (.sipush 250, 3) := by decide +kernel
theorem d_MO_init_580 : decode (mC m_MO_init) 580 = .ok (.bipush 10, 2) := by decide +kernel
theorem d_MO_init_582 : decode (mC m_MO_init) 582 = .ok (.bipush 20, 2) := by decide +kernel
theorem d_MO_init_584 : decode (mC m_MO_init) 584 = .ok (.iconst 3, 1) := by decide +kernel
theorem d_MO_init_585 : decode (mC m_MO_init) 585 = .ok (.invokevirtual 46, 3) := by decide +kernel
theorem d_MO_init_588 : decode (mC m_MO_init) 588 = .ok (.aload_n 0, 1) := by decide +kernel
theorem d_MO_init_589 : decode (mC m_MO_init) 589 = .ok (.invokevirtual 49, 3) := by decide +kernel
theorem d_MO_init_592 : decode (mC m_MO_init) 592 = .ok (.aload_n 0, 1) := by decide +kernel
theorem d_MO_init_593 : decode (mC m_MO_init) 593 = .ok (.bipush 50, 2) := by decide +kernel
theorem d_MO_init_595 : decode (mC m_MO_init) 595 = .ok (.bipush 30, 2) := by decide +kernel
theorem d_MO_init_597 : decode (mC m_MO_init) 597 = .ok (.iconst 0, 1) := by decide +kernel
theorem d_MO_init_598 : decode (mC m_MO_init) 598 = .ok (.iconst 0, 1) := by decide +kernel
theorem d_MO_init_599 : decode (mC m_MO_init) 599 = .ok (.invokevirtual 42, 3) := by decide +kernel
theorem d_MO_init_602 : decode (mC m_MO_init) 602 = .ok (.aload_n 0, 1) := by decide +kernel
theorem d_MO_init_603 : decode (mC m_MO_init) 603 = .ok (.sipush 1000, 3) := by decide +kernel
theorem d_MO_init_606 : decode (mC m_MO_init) 606 = .ok (.iconst 4, 1) := by decide +kernel
theorem d_MO_init_607 : decode (mC m_MO_init) 607 = .ok (.iconst 0, 1) := by decide +kernel
theorem d_MO_init_608 : decode (mC m_MO_init) 608 = .ok (.iconst 0, 1) := by decide +kernel
theorem d_MO_init_609 : decode (mC m_MO_init) 609 = .ok (.invokevirtual 46, 3) := by decide +kernel
theorem d_MO_init_612 : decode (mC m_MO_init) 612 = .ok (.aload_n 0, 1) := by decide +kernel
theorem d_MO_init_613 : decode (mC m_MO_init) 613 = .ok (.invokevirtual 49, 3) := by decide +kernel
theorem d_MO_init_616 : decode (mC m_MO_init) 616 = .ok (.aload_n 0, 1) := by decide +kernel
theorem d_MO_init_617 : decode (mC m_MO_init) 617 = .ok (.sipush 200, 3) := by decide +kernel
theorem d_MO_init_620 : decode (mC m_MO_init) 620 = .ok (.bipush (-20), 2) := by decide +kernel
theorem d_MO_init_622 : decode (mC m_MO_init) 622 = .ok (.bipush 10, 2) := by decide +kernel
theorem d_MO_init_624 : decode (mC m_MO_init) 624 = .ok (.iconst (-1), 1) := by decide +kernel
theorem d_MO_init_625 : decode (mC m_MO_init) 625 = .ok (.invokevirtual 42, 3) := by decide +kernel
theorem d_MO_init_628 : decode (mC m_MO_init) 628 = .ok (.aload_n 0, 1) := by decide +kernel
theorem d_MO_init_629 : decode (mC m_MO_init) 629 = .ok (.bipush 100, 2) := by decide +kernel
theorem d_MO_init_631 : decode (mC m_MO_init) 631 = .ok (.bipush 30, 2) := by decide +kernel
theorem d_MO_init_633 : decode (mC m_MO_init) 633 = .ok (.iconst 0, 1) := by decide +kernel
theorem d_MO_init_634 : decode (mC m_MO_init) 634 = .ok (.iconst 5, 1) := by decide +kernel
theorem d_MO_init_635 : decode (mC m_MO_init) 635 = .ok (.invokevirtual 46, 3) := by decide +kernel
theorem d_MO_init_638 : decode (mC m_MO_init) 638 = .ok (.aload_n 0, 1) := by decide +kernel
theorem d_MO_init_639 : decode (mC m_MO_init) 639 = .ok (.invokevirtual 49, 3) := by decide +kernel
theorem d_MO_init_642 : decode (mC m_MO_init) 642 = .ok (.return_, 1) := by decide +kernel
theorem d_MO_nameScale_0 : decode (mC m_MO_nameScale) 0 = .ok (.aload_n 0, 1) := by decide +kernel
theorem d_MO_nameScale_1 : decode (mC m_MO_nameScale) 1 = .ok (.getfield 25, 3) := by decide +kernel
theorem d_MO_nameScale_4 : decode (mC m_MO_nameScale) 4 = .ok (.iconst 0, 1) := by decide +kernel
theorem d_MO_nameScale_5 : decode (mC m_MO_nameScale) 5 = .ok (.iload_n 1, 1) := by decide +kernel
theorem d_MO_nameScale_6 : decode (mC m_MO_nameScale) 6 = .ok (.iastore, 1) := by decide +kernel
theorem d_MO_nameScale_7 : decode (mC m_MO_nameScale) 7 = .ok (.aload_n 0, 1) := by decide +kernel
theorem d_MO_nameScale_8 : decode (mC m_MO_nameScale) 8 = .ok (.getfield 25, 3) := by decide +kernel
theorem d_MO_nameScale_11 : decode (mC m_MO_nameScale) 11 = .ok (.iconst 1, 1) := by decide +kernel
theorem d_MO_nameScale_12 : decode (mC m_MO_nameScale) 12 = .ok (.iload_n 2, 1) := by decide +kernel
theorem d_MO_nameScale_13 : decode (mC m_MO_nameScale) 13 = .ok (.iastore, 1) := by decide +kernel
theorem d_MO_nameScale_14 : decode (mC m_MO_nameScale) 14 = .ok (.aload_n 0, 1) := by decide +kernel
theorem d_MO_nameScale_15 : decode (mC m_MO_nameScale) 15 = .ok (.getfield 25, 3) := by decide +kernel
theorem d_MO_nameScale_18 : decode (mC m_MO_nameScale) 18 = .ok (.iconst 2, 1) := by decide +kernel
theorem d_MO_nameScale_19 : decode (mC m_MO_nameScale) 19 = .ok (.iload_n 3, 1) := by decide +kernel
theorem d_MO_nameScale_20 : decode (mC m_MO_nameScale) 20 = .ok (.iastore, 1) := by decide +kernel
theorem d_MO_nameScale_21 : decode (mC m_MO_nameScale) 21 = .ok (.aload_n 0, 1) := by decide +kernel
theorem d_MO_nameScale_22 : decode (mC m_MO_nameScale) 22 = .ok (.getfield 25, 3) := by decide +kernel
theorem d_MO_nameScale_25 : decode (mC m_MO_nameScale) 25 = .ok (.iconst 3, 1) := by decide +kernel
theorem d_MO_nameScale_26 : decode (mC m_MO_nameScale) 26 = .ok (.iload 4, 2) := by decide +kernel
theorem d_MO_nameScale_28 : decode (mC m_MO_nameScale) 28 = .ok (.iastore, 1) := by decide +kernel
theorem d_MO_nameScale_29 : decode (mC m_MO_nameScale) 29 = .ok (.return_, 1) := by decide +kernel
theorem d_MO_nameSales_0 : decode (mC m_MO_nameSales) 0 = .ok (.aload_n 0, 1) := by decide +kernel
theorem d_MO_nameSales_1 : decode (mC m_MO_nameSales) 1 = .ok (.getfield 25, 3) := by decide +kernel
theorem d_MO_nameSales_4 : decode (mC m_MO_nameSales) 4 = .ok (.iconst 4, 1) := by decide +kernel
theorem d_MO_nameSales_5 : decode (mC m_MO_nameSales) 5 = .ok (.iload_n 1, 1) := by decide +kernel
theorem d_MO_nameSales_6 : decode (mC m_MO_nameSales) 6 = .ok (.iastore, 1) := by decide +kernel
theorem d_MO_nameSales_7 : decode (mC m_MO_nameSales) 7 = .ok (.aload_n 0, 1) := by decide +kernel
theorem d_MO_nameSales_8 : decode (mC m_MO_nameSales) 8 = .ok (.getfield 25, 3) := by decide +kernel
theorem d_MO_nameSales_11 : decode (mC m_MO_nameSales) 11 = .ok (.iconst 5, 1) := by decide +kernel
theorem d_MO_nameSales_12 : decode (mC m_MO_nameSales) 12 = .ok (.iload_n 2, 1) := by decide +kernel
theorem d_MO_nameSales_13 : decode (mC m_MO_nameSales) 13 = .ok (.iastore, 1) := by decide +kernel
theorem d_MO_nameSales_14 : decode (mC m_MO_nameSales) 14 = .ok (.aload_n 0, 1) := by decide +kernel
theorem d_MO_nameSales_15 : decode (mC m_MO_nameSales) 15 = .ok (.getfield 25, 3) := by decide +kernel
theorem d_MO_nameSales_18 : decode (mC m_MO_nameSales) 18 = .ok (.bipush 6, 2) := by decide +kernel
theorem d_MO_nameSales_20 : decode (mC m_MO_nameSales) 20 = .ok (.iload_n 3, 1) := by decide +kernel
theorem d_MO_nameSales_21 : decode (mC m_MO_nameSales) 21 = .ok (.iastore, 1) := by decide +kernel
theorem d_MO_nameSales_22 : decode (mC m_MO_nameSales) 22 = .ok (.aload_n 0, 1) := by decide +kernel
theorem d_MO_nameSales_23 : decode (mC m_MO_nameSales) 23 = .ok (.getfield 25, 3) := by decide +kernel
theorem d_MO_nameSales_26 : decode (mC m_MO_nameSales) 26 = .ok (.bipush 7, 2) := by decide +kernel
theorem d_MO_nameSales_28 : decode (mC m_MO_nameSales) 28 = .ok (.iload 4, 2) := by decide +kernel
theorem d_MO_nameSales_30 : decode (mC m_MO_nameSales) 30 = .ok (.iastore, 1) := by decide +kernel
theorem d_MO_nameSales_31 : decode (mC m_MO_nameSales) 31 = .ok (.return_, 1) := by decide +kernel
set_option maxRecDepth 20000 in
theorem cn_MO_nameScale {E : En} {h : Hp} {m st mi nu co wd : Nat} {c G0 Ti N : Nat → Int32} {R : List (Nat × (Nat → Int32))} {x1 x2 x3 x4 : Int32} (hM : MpOk h m st mi nu co wd) (nd : (m :: st :: mi :: nu :: R.map Prod.fst).Nodup) : CR E m_MO_nameScale [.ref m, .int x1, .int x2, .int x3, .int x4] (wL h ((m, c) :: (st, G0) :: (mi, Ti) :: (nu, N) :: R)) (none) (wL h ((m, c) :: (st, G0) :: (mi, Ti) :: (nu, nm4 N x1 x2 x3 x4) :: R)) := by
  refine ct_of rfl (by decide +kernel) (Nat.le_of_ble_eq_true rfl) ?_
  show G E m_MO_nameScale 0 [(0, .ref m), (1, .int x1), (2, .int x2), (3, .int x3), (4, .int x4)] [] (wL h ((m, c) :: (st, G0) :: (mi, Ti) :: (nu, N) :: R)) 0 0 _ noX
  obtain ⟨k_m, r_m_0, k_st, l_st, r_m_4, k_mi, l_mi, r_m_12, k_nu, l_nu, -⟩ := id hM
  refine g_aload_n (pc := 0) d_MO_nameScale_0 rfl 0 rfl ?_
  refine g_getR (pc := 1) (ci := 7) (f := 12) (b := nu) rfl r_m_12 d_MO_nameScale_1 fl_MO_25 (by decide) k_m ?_
  refine g_iconst (pc := 4) (v := 0) d_MO_nameScale_4 (by decide) ?_
  refine g_iload_n (pc := 5) d_MO_nameScale_5 rfl 1 rfl ?_
  refine g_lis3 (pc := 6) (j := 0) d_MO_nameScale_6 k_nu l_nu (by first | assumption | omega | decide) (by decide) nd ?_
  refine g_aload_n (pc := 7) d_MO_nameScale_7 rfl 0 rfl ?_
  refine g_getR (pc := 8) (ci := 7) (f := 12) (b := nu) rfl r_m_12 d_MO_nameScale_8 fl_MO_25 (by decide) k_m ?_
  refine g_iconst (pc := 11) (v := 1) d_MO_nameScale_11 (by decide) ?_
  refine g_iload_n (pc := 12) d_MO_nameScale_12 rfl 2 rfl ?_
  refine g_lis3 (pc := 13) (j := 1) d_MO_nameScale_13 k_nu l_nu (by first | assumption | omega | decide) (by decide) nd ?_
  refine g_aload_n (pc := 14) d_MO_nameScale_14 rfl 0 rfl ?_
  refine g_getR (pc := 15) (ci := 7) (f := 12) (b := nu) rfl r_m_12 d_MO_nameScale_15 fl_MO_25 (by decide) k_m ?_
  refine g_iconst (pc := 18) (v := 2) d_MO_nameScale_18 (by decide) ?_
  refine g_iload_n (pc := 19) d_MO_nameScale_19 rfl 3 rfl ?_
  refine g_lis3 (pc := 20) (j := 2) d_MO_nameScale_20 k_nu l_nu (by first | assumption | omega | decide) (by decide) nd ?_
  refine g_aload_n (pc := 21) d_MO_nameScale_21 rfl 0 rfl ?_
  refine g_getR (pc := 22) (ci := 7) (f := 12) (b := nu) rfl r_m_12 d_MO_nameScale_22 fl_MO_25 (by decide) k_m ?_
  refine g_iconst (pc := 25) (v := 3) d_MO_nameScale_25 (by decide) ?_
  refine g_iload (pc := 26) d_MO_nameScale_26 4 rfl ?_
  refine g_lis3 (pc := 28) (j := 3) d_MO_nameScale_28 k_nu l_nu (by first | assumption | omega | decide) (by decide) nd ?_
  refine g_vret (pc := 29) d_MO_nameScale_29 rfl ?_
  exact ⟨rfl, rfl⟩
set_option maxRecDepth 20000 in
theorem cn_MO_nameSales {E : En} {h : Hp} {m st mi nu co wd : Nat} {c G0 Ti N : Nat → Int32} {R : List (Nat × (Nat → Int32))} {x1 x2 x3 x4 : Int32} (hM : MpOk h m st mi nu co wd) (nd : (m :: st :: mi :: nu :: R.map Prod.fst).Nodup) : CR E m_MO_nameSales [.ref m, .int x1, .int x2, .int x3, .int x4] (wL h ((m, c) :: (st, G0) :: (mi, Ti) :: (nu, N) :: R)) (none) (wL h ((m, c) :: (st, G0) :: (mi, Ti) :: (nu, nm8 N x1 x2 x3 x4) :: R)) := by
  refine ct_of rfl (by decide +kernel) (Nat.le_of_ble_eq_true rfl) ?_
  show G E m_MO_nameSales 0 [(0, .ref m), (1, .int x1), (2, .int x2), (3, .int x3), (4, .int x4)] [] (wL h ((m, c) :: (st, G0) :: (mi, Ti) :: (nu, N) :: R)) 0 0 _ noX
  obtain ⟨k_m, r_m_0, k_st, l_st, r_m_4, k_mi, l_mi, r_m_12, k_nu, l_nu, -⟩ := id hM
  refine g_aload_n (pc := 0) d_MO_nameSales_0 rfl 0 rfl ?_
  refine g_getR (pc := 1) (ci := 7) (f := 12) (b := nu) rfl r_m_12 d_MO_nameSales_1 fl_MO_25 (by decide) k_m ?_
  refine g_iconst (pc := 4) (v := 4) d_MO_nameSales_4 (by decide) ?_
  refine g_iload_n (pc := 5) d_MO_nameSales_5 rfl 1 rfl ?_
  refine g_lis3 (pc := 6) (j := 4) d_MO_nameSales_6 k_nu l_nu (by first | assumption | omega | decide) (by decide) nd ?_
  refine g_aload_n (pc := 7) d_MO_nameSales_7 rfl 0 rfl ?_
  refine g_getR (pc := 8) (ci := 7) (f := 12) (b := nu) rfl r_m_12 d_MO_nameSales_8 fl_MO_25 (by decide) k_m ?_
  refine g_iconst (pc := 11) (v := 5) d_MO_nameSales_11 (by decide) ?_
  refine g_iload_n (pc := 12) d_MO_nameSales_12 rfl 2 rfl ?_
  refine g_lis3 (pc := 13) (j := 5) d_MO_nameSales_13 k_nu l_nu (by first | assumption | omega | decide) (by decide) nd ?_
  refine g_aload_n (pc := 14) d_MO_nameSales_14 rfl 0 rfl ?_
  refine g_getR (pc := 15) (ci := 7) (f := 12) (b := nu) rfl r_m_12 d_MO_nameSales_15 fl_MO_25 (by decide) k_m ?_
  refine g_bipush (pc := 18) (v := 6) d_MO_nameSales_18 (by decide) ?_
  refine g_iload_n (pc := 20) d_MO_nameSales_20 rfl 3 rfl ?_
  refine g_lis3 (pc := 21) (j := 6) d_MO_nameSales_21 k_nu l_nu (by first | assumption | omega | decide) (by decide) nd ?_
  refine g_aload_n (pc := 22) d_MO_nameSales_22 rfl 0 rfl ?_
  refine g_getR (pc := 23) (ci := 7) (f := 12) (b := nu) rfl r_m_12 d_MO_nameSales_23 fl_MO_25 (by decide) k_m ?_
  refine g_bipush (pc := 26) (v := 7) d_MO_nameSales_26 (by decide) ?_
  refine g_iload (pc := 28) d_MO_nameSales_28 4 rfl ?_
  refine g_lis3 (pc := 30) (j := 7) d_MO_nameSales_30 k_nu l_nu (by first | assumption | omega | decide) (by decide) nd ?_
  refine g_vret (pc := 31) d_MO_nameSales_31 rfl ?_
  exact ⟨rfl, rfl⟩
set_option maxRecDepth 20000 in
set_option maxHeartbeats 2000000 in
theorem cn_MO_init {E : En} {h0 : Hp} {m : Nat} (hm : hK h0 m = 0) : CT E m_MO_init [.ref m] (hNew h0 m 8 0) 7 2662 (fun v h9 => v = none ∧ ∃ st sv mi nu co mo wd, Ext h0 h9 ∧ MpOk h9 m st mi nu co wd ∧ MuOk h9 m mo ∧ (hR h9 m 3 = some sv ∧ hK h9 sv = 22 ∧ hL h9 sv = 2) ∧ (hI h9 m = cM_0 ∧ hI h9 st = G_7 ∧ hI h9 sv = Z_0 ∧ hI h9 wd = wdR) ∧ Fr h0 [wd, mo, co, nu, mi, sv, st, m]) noX := by
  refine ct_of rfl (by decide +kernel) (Nat.le_of_ble_eq_true rfl) ?_
  show G E m_MO_init 0 [(0, .ref m)] [] (hNew h0 m 8 0) 7 2662 _ noX
  generalize hH0 : hNew h0 m 8 0 = H0
  have e0 : Ext h0 H0 := hH0 ▸ Ext.r.new hm
  have km0 : hK H0 m = 8 := by rw [← hH0, hK_new, if_pos rfl]
  have zm0 : hI H0 m = Z_0 := by rw [← hH0, hI_new, if_pos rfl]; rfl
  refine g_aload_n (pc := 0) d_MO_init_0 rfl 0 rfl ?_
  refine g_objInit (pc := 1) d_MO_init_1 oi_MO_init (Nat.le_of_ble_eq_true rfl) (Nat.le_of_ble_eq_true rfl) (Nat.le_of_ble_eq_true rfl) ?_
  refine g_aload_n (pc := 4) d_MO_init_4 rfl 0 rfl ?_
  refine g_sipush (pc := 5) (v := 1820) d_MO_init_5 (by decide) ?_
  show G E m_MO_init 8 _ _ _ (6 + 1) (842 + 1820) _ _
  refine g_newarray (pc := 8) (kd := 20) (N := 1820) d_MO_init_8 ⟨by decide, by decide⟩ rfl ac_i (by decide) (by decide) (by decide) (fun st h_st => ?_)
  obtain ⟨n_st, kp1, ro1, rk1, kd_st, ln_st, zr_st, kn1⟩ := ns (k := 0) (kd := 20) (N := 1820) h_st (show hK H0 m ≠ 0 by rw [km0]; decide)
  refine g_putFR (pc := 10) (ci := 7) (f := 0) rfl d_MO_init_10 fl_MO_7 (fun q hq => by cases hq; exact ⟨rfl, rfl⟩) rfl rfl rfl (by decide) (kn1.trans km0) ?_
  have km1 : hK (sR (hNew H0 st 20 1820) m 0 (some st)) m = 8 := kn1.trans km0
  have E1 : Ext h0 (sR (hNew H0 st 20 1820) m 0 (some st)) := (e0.new h_st).sR hm
  have fr_st : hK h0 st = 0 := e0.fresh h_st
  have zm1 : hI (sR (hNew H0 st 20 1820) m 0 (some st)) m = Z_0 := ((kp1 m (by rw [km0]; decide)).1).trans zm0
  have rf_st := rk1
  clear ro1
  clear kp1 kn1 rk1
  generalize sR (hNew H0 st 20 1820) m 0 (some st) = H1 at *
  refine g_aload_n (pc := 13) d_MO_init_13 rfl 0 rfl ?_
  refine g_iconst (pc := 14) (v := 2) d_MO_init_14 (by decide) ?_
  show G E m_MO_init 15 _ _ _ (5 + 1) (840 + 2) _ _
  refine g_newarray (pc := 15) (kd := 22) (N := 2) d_MO_init_15 ⟨by decide, by decide⟩ rfl ac_z (by decide) (by decide) (by decide) (fun sv h_sv => ?_)
  obtain ⟨n_sv, kp2, ro2, rk2, kd_sv, ln_sv, zr_sv, kn2⟩ := ns (k := 3) (kd := 22) (N := 2) h_sv (show hK H1 m ≠ 0 by rw [km1]; decide)
  refine g_putFR (pc := 17) (ci := 7) (f := 3) rfl d_MO_init_17 fl_MO_13 (fun q hq => by cases hq; exact ⟨rfl, rfl⟩) rfl rfl rfl (by decide) (kn2.trans km1) ?_
  have km2 : hK (sR (hNew H1 sv 22 2) m 3 (some sv)) m = 8 := kn2.trans km1
  have E2 : Ext h0 (sR (hNew H1 sv 22 2) m 3 (some sv)) := (E1.new h_sv).sR hm
  have fr_sv : hK h0 sv = 0 := E1.fresh h_sv
  have zm2 : hI (sR (hNew H1 sv 22 2) m 3 (some sv)) m = Z_0 := ((kp2 m (by rw [km1]; decide)).1).trans zm1
  have d_sv_st : sv ≠ st := fun z => by rw [z] at h_sv; have := kd_st; omega
  replace rf_st : hR (sR (hNew H1 sv 22 2) m 3 (some sv)) m 0 = some st := (ro2 0 (by decide)).trans rf_st
  replace ln_st := (kp2 st (by rw [kd_st]; decide)).2.2.2.trans ln_st
  replace zr_st := (kp2 st (by rw [kd_st]; decide)).1.trans zr_st
  replace kd_st := (kp2 st (by rw [kd_st]; decide)).2.2.1.trans kd_st
  have rf_sv := rk2
  clear ro2
  clear kp2 kn2 rk2
  generalize sR (hNew H1 sv 22 2) m 3 (some sv) = H2 at *
  refine g_aload_n (pc := 20) d_MO_init_20 rfl 0 rfl ?_
  refine g_sipush (pc := 21) (v := 500) d_MO_init_21 (by decide) ?_
  show G E m_MO_init 24 _ _ _ (4 + 1) (340 + 500) _ _
  refine g_newarray (pc := 24) (kd := 21) (N := 500) d_MO_init_24 ⟨by decide, by decide⟩ rfl ac_b (by decide) (by decide) (by decide) (fun mi h_mi => ?_)
  obtain ⟨n_mi, kp3, ro3, rk3, kd_mi, ln_mi, zr_mi, kn3⟩ := ns (k := 4) (kd := 21) (N := 500) h_mi (show hK H2 m ≠ 0 by rw [km2]; decide)
  refine g_putFR (pc := 26) (ci := 7) (f := 4) rfl d_MO_init_26 fl_MO_17 (fun q hq => by cases hq; exact ⟨rfl, rfl⟩) rfl rfl rfl (by decide) (kn3.trans km2) ?_
  have km3 : hK (sR (hNew H2 mi 21 500) m 4 (some mi)) m = 8 := kn3.trans km2
  have E3 : Ext h0 (sR (hNew H2 mi 21 500) m 4 (some mi)) := (E2.new h_mi).sR hm
  have fr_mi : hK h0 mi = 0 := E2.fresh h_mi
  have zm3 : hI (sR (hNew H2 mi 21 500) m 4 (some mi)) m = Z_0 := ((kp3 m (by rw [km2]; decide)).1).trans zm2
  have d_mi_st : mi ≠ st := fun z => by rw [z] at h_mi; have := kd_st; omega
  have d_mi_sv : mi ≠ sv := fun z => by rw [z] at h_mi; have := kd_sv; omega
  replace rf_st : hR (sR (hNew H2 mi 21 500) m 4 (some mi)) m 0 = some st := (ro3 0 (by decide)).trans rf_st
  replace ln_st := (kp3 st (by rw [kd_st]; decide)).2.2.2.trans ln_st
  replace zr_st := (kp3 st (by rw [kd_st]; decide)).1.trans zr_st
  replace kd_st := (kp3 st (by rw [kd_st]; decide)).2.2.1.trans kd_st
  replace rf_sv : hR (sR (hNew H2 mi 21 500) m 4 (some mi)) m 3 = some sv := (ro3 3 (by decide)).trans rf_sv
  replace ln_sv := (kp3 sv (by rw [kd_sv]; decide)).2.2.2.trans ln_sv
  replace zr_sv := (kp3 sv (by rw [kd_sv]; decide)).1.trans zr_sv
  replace kd_sv := (kp3 sv (by rw [kd_sv]; decide)).2.2.1.trans kd_sv
  have rf_mi := rk3
  clear ro3
  clear kp3 kn3 rk3
  generalize sR (hNew H2 mi 21 500) m 4 (some mi) = H3 at *
  skip
  refine g_aload_n (pc := 29) d_MO_init_29 rfl 0 rfl ?_
  refine g_iconst (pc := 30) (v := -1) d_MO_init_30 (by decide) ?_
  refine g_putI (pc := 31) (ci := 7) (f := 7) rfl d_MO_init_31 fl_MO_21 (fun q hq => by cases hq; exact rfl) rfl rfl (by decide) km3 ?_
  have im3 : hI (sI H3 m 7 (-1)) m = cM_0 := by
    funext j
    rw [hI_sI, zm3]
    show (if m = m ∧ j = 7 then (-1 : Int32) else Z_0 j) = u1 Z_0 7 (-1) j
    rw [u1_at]
    by_cases c : j = 7 <;> simp [c]
  have io3 : ∀ q, q ≠ m → hI (sI H3 m 7 (-1)) q = hI H3 q := fun q hq => funext fun j => by rw [hI_sI, if_neg (fun z => hq z.1)]
  have E3' : Ext h0 (sI H3 m 7 (-1)) := fun q hq => by
    obtain ⟨y1, y2⟩ := E3 q hq
    exact ⟨(io3 q (fun z => hq (z ▸ hm))).trans y1, y2⟩
  have km3' : hK (sI H3 m 7 (-1)) m = 8 := km3
  replace rf_st : hR (sI H3 m 7 (-1)) m 0 = some st := rf_st
  replace ln_st : hL (sI H3 m 7 (-1)) st = 1820 := ln_st
  replace kd_st : hK (sI H3 m 7 (-1)) st = 20 := kd_st
  replace zr_st := (io3 st n_st).trans zr_st
  replace rf_sv : hR (sI H3 m 7 (-1)) m 3 = some sv := rf_sv
  replace ln_sv : hL (sI H3 m 7 (-1)) sv = 2 := ln_sv
  replace kd_sv : hK (sI H3 m 7 (-1)) sv = 22 := kd_sv
  replace zr_sv := (io3 sv n_sv).trans zr_sv
  replace rf_mi : hR (sI H3 m 7 (-1)) m 4 = some mi := rf_mi
  replace ln_mi : hL (sI H3 m 7 (-1)) mi = 500 := ln_mi
  replace kd_mi : hK (sI H3 m 7 (-1)) mi = 21 := kd_mi
  replace zr_mi := (io3 mi n_mi).trans zr_mi
  clear io3 zm1 zm2 zm3
  generalize sI H3 m 7 (-1) = H3' at *
  refine g_aload_n (pc := 34) d_MO_init_34 rfl 0 rfl ?_
  refine g_bipush (pc := 35) (v := 8) d_MO_init_35 (by decide) ?_
  show G E m_MO_init 37 _ _ _ (3 + 1) (332 + 8) _ _
  refine g_newarray (pc := 37) (kd := 20) (N := 8) d_MO_init_37 ⟨by decide, by decide⟩ rfl ac_i (by decide) (by decide) (by decide) (fun nu h_nu => ?_)
  obtain ⟨n_nu, kp4, ro4, rk4, kd_nu, ln_nu, zr_nu, kn4⟩ := ns (k := 12) (kd := 20) (N := 8) h_nu (show hK H3' m ≠ 0 by rw [km3']; decide)
  refine g_putFR (pc := 39) (ci := 7) (f := 12) rfl d_MO_init_39 fl_MO_25 (fun q hq => by cases hq; exact ⟨rfl, rfl⟩) rfl rfl rfl (by decide) (kn4.trans km3') ?_
  have km4 : hK (sR (hNew H3' nu 20 8) m 12 (some nu)) m = 8 := kn4.trans km3'
  have E4 : Ext h0 (sR (hNew H3' nu 20 8) m 12 (some nu)) := (E3'.new h_nu).sR hm
  have fr_nu : hK h0 nu = 0 := E3'.fresh h_nu
  have d_nu_st : nu ≠ st := fun z => by rw [z] at h_nu; have := kd_st; omega
  have d_nu_sv : nu ≠ sv := fun z => by rw [z] at h_nu; have := kd_sv; omega
  have d_nu_mi : nu ≠ mi := fun z => by rw [z] at h_nu; have := kd_mi; omega
  replace rf_st : hR (sR (hNew H3' nu 20 8) m 12 (some nu)) m 0 = some st := (ro4 0 (by decide)).trans rf_st
  replace ln_st := (kp4 st (by rw [kd_st]; decide)).2.2.2.trans ln_st
  replace zr_st := (kp4 st (by rw [kd_st]; decide)).1.trans zr_st
  replace kd_st := (kp4 st (by rw [kd_st]; decide)).2.2.1.trans kd_st
  replace rf_sv : hR (sR (hNew H3' nu 20 8) m 12 (some nu)) m 3 = some sv := (ro4 3 (by decide)).trans rf_sv
  replace ln_sv := (kp4 sv (by rw [kd_sv]; decide)).2.2.2.trans ln_sv
  replace zr_sv := (kp4 sv (by rw [kd_sv]; decide)).1.trans zr_sv
  replace kd_sv := (kp4 sv (by rw [kd_sv]; decide)).2.2.1.trans kd_sv
  replace rf_mi : hR (sR (hNew H3' nu 20 8) m 12 (some nu)) m 4 = some mi := (ro4 4 (by decide)).trans rf_mi
  replace ln_mi := (kp4 mi (by rw [kd_mi]; decide)).2.2.2.trans ln_mi
  replace zr_mi := (kp4 mi (by rw [kd_mi]; decide)).1.trans zr_mi
  replace kd_mi := (kp4 mi (by rw [kd_mi]; decide)).2.2.1.trans kd_mi
  have rf_nu := rk4
  clear ro4
  replace im3 := (kp4 m (by rw [km3']; decide)).1.trans im3
  clear kp4 kn4 rk4
  generalize sR (hNew H3' nu 20 8) m 12 (some nu) = H4 at *
  refine g_aload_n (pc := 42) d_MO_init_42 rfl 0 rfl ?_
  refine g_bipush (pc := 43) (v := 60) d_MO_init_43 (by decide) ?_
  show G E m_MO_init 45 _ _ _ (2 + 1) (272 + 60) _ _
  refine g_newarray (pc := 45) (kd := 20) (N := 60) d_MO_init_45 ⟨by decide, by decide⟩ rfl ac_i (by decide) (by decide) (by decide) (fun co h_co => ?_)
  obtain ⟨n_co, kp5, ro5, rk5, kd_co, ln_co, zr_co, kn5⟩ := ns (k := 13) (kd := 20) (N := 60) h_co (show hK H4 m ≠ 0 by rw [km4]; decide)
  refine g_putFR (pc := 47) (ci := 7) (f := 13) rfl d_MO_init_47 fl_MO_28 (fun q hq => by cases hq; exact ⟨rfl, rfl⟩) rfl rfl rfl (by decide) (kn5.trans km4) ?_
  have km5 : hK (sR (hNew H4 co 20 60) m 13 (some co)) m = 8 := kn5.trans km4
  have E5 : Ext h0 (sR (hNew H4 co 20 60) m 13 (some co)) := (E4.new h_co).sR hm
  have fr_co : hK h0 co = 0 := E4.fresh h_co
  have d_co_st : co ≠ st := fun z => by rw [z] at h_co; have := kd_st; omega
  have d_co_sv : co ≠ sv := fun z => by rw [z] at h_co; have := kd_sv; omega
  have d_co_mi : co ≠ mi := fun z => by rw [z] at h_co; have := kd_mi; omega
  have d_co_nu : co ≠ nu := fun z => by rw [z] at h_co; have := kd_nu; omega
  replace rf_st : hR (sR (hNew H4 co 20 60) m 13 (some co)) m 0 = some st := (ro5 0 (by decide)).trans rf_st
  replace ln_st := (kp5 st (by rw [kd_st]; decide)).2.2.2.trans ln_st
  replace zr_st := (kp5 st (by rw [kd_st]; decide)).1.trans zr_st
  replace kd_st := (kp5 st (by rw [kd_st]; decide)).2.2.1.trans kd_st
  replace rf_sv : hR (sR (hNew H4 co 20 60) m 13 (some co)) m 3 = some sv := (ro5 3 (by decide)).trans rf_sv
  replace ln_sv := (kp5 sv (by rw [kd_sv]; decide)).2.2.2.trans ln_sv
  replace zr_sv := (kp5 sv (by rw [kd_sv]; decide)).1.trans zr_sv
  replace kd_sv := (kp5 sv (by rw [kd_sv]; decide)).2.2.1.trans kd_sv
  replace rf_mi : hR (sR (hNew H4 co 20 60) m 13 (some co)) m 4 = some mi := (ro5 4 (by decide)).trans rf_mi
  replace ln_mi := (kp5 mi (by rw [kd_mi]; decide)).2.2.2.trans ln_mi
  replace zr_mi := (kp5 mi (by rw [kd_mi]; decide)).1.trans zr_mi
  replace kd_mi := (kp5 mi (by rw [kd_mi]; decide)).2.2.1.trans kd_mi
  replace rf_nu : hR (sR (hNew H4 co 20 60) m 13 (some co)) m 12 = some nu := (ro5 12 (by decide)).trans rf_nu
  replace ln_nu := (kp5 nu (by rw [kd_nu]; decide)).2.2.2.trans ln_nu
  replace zr_nu := (kp5 nu (by rw [kd_nu]; decide)).1.trans zr_nu
  replace kd_nu := (kp5 nu (by rw [kd_nu]; decide)).2.2.1.trans kd_nu
  have rf_co := rk5
  clear ro5
  replace im3 := (kp5 m (by rw [km4]; decide)).1.trans im3
  clear kp5 kn5 rk5
  generalize sR (hNew H4 co 20 60) m 13 (some co) = H5 at *
  refine g_aload_n (pc := 50) d_MO_init_50 rfl 0 rfl ?_
  refine g_sipush (pc := 51) (v := 200) d_MO_init_51 (by decide) ?_
  show G E m_MO_init 54 _ _ _ (1 + 1) (72 + 200) _ _
  refine g_newarray (pc := 54) (kd := 21) (N := 200) d_MO_init_54 ⟨by decide, by decide⟩ rfl ac_b (by decide) (by decide) (by decide) (fun mo h_mo => ?_)
  obtain ⟨n_mo, kp6, ro6, rk6, kd_mo, ln_mo, zr_mo, kn6⟩ := ns (k := 15) (kd := 21) (N := 200) h_mo (show hK H5 m ≠ 0 by rw [km5]; decide)
  refine g_putFR (pc := 56) (ci := 7) (f := 15) rfl d_MO_init_56 fl_MO_31 (fun q hq => by cases hq; exact ⟨rfl, rfl⟩) rfl rfl rfl (by decide) (kn6.trans km5) ?_
  have km6 : hK (sR (hNew H5 mo 21 200) m 15 (some mo)) m = 8 := kn6.trans km5
  have E6 : Ext h0 (sR (hNew H5 mo 21 200) m 15 (some mo)) := (E5.new h_mo).sR hm
  have fr_mo : hK h0 mo = 0 := E5.fresh h_mo
  have d_mo_st : mo ≠ st := fun z => by rw [z] at h_mo; have := kd_st; omega
  have d_mo_sv : mo ≠ sv := fun z => by rw [z] at h_mo; have := kd_sv; omega
  have d_mo_mi : mo ≠ mi := fun z => by rw [z] at h_mo; have := kd_mi; omega
  have d_mo_nu : mo ≠ nu := fun z => by rw [z] at h_mo; have := kd_nu; omega
  have d_mo_co : mo ≠ co := fun z => by rw [z] at h_mo; have := kd_co; omega
  replace rf_st : hR (sR (hNew H5 mo 21 200) m 15 (some mo)) m 0 = some st := (ro6 0 (by decide)).trans rf_st
  replace ln_st := (kp6 st (by rw [kd_st]; decide)).2.2.2.trans ln_st
  replace zr_st := (kp6 st (by rw [kd_st]; decide)).1.trans zr_st
  replace kd_st := (kp6 st (by rw [kd_st]; decide)).2.2.1.trans kd_st
  replace rf_sv : hR (sR (hNew H5 mo 21 200) m 15 (some mo)) m 3 = some sv := (ro6 3 (by decide)).trans rf_sv
  replace ln_sv := (kp6 sv (by rw [kd_sv]; decide)).2.2.2.trans ln_sv
  replace zr_sv := (kp6 sv (by rw [kd_sv]; decide)).1.trans zr_sv
  replace kd_sv := (kp6 sv (by rw [kd_sv]; decide)).2.2.1.trans kd_sv
  replace rf_mi : hR (sR (hNew H5 mo 21 200) m 15 (some mo)) m 4 = some mi := (ro6 4 (by decide)).trans rf_mi
  replace ln_mi := (kp6 mi (by rw [kd_mi]; decide)).2.2.2.trans ln_mi
  replace zr_mi := (kp6 mi (by rw [kd_mi]; decide)).1.trans zr_mi
  replace kd_mi := (kp6 mi (by rw [kd_mi]; decide)).2.2.1.trans kd_mi
  replace rf_nu : hR (sR (hNew H5 mo 21 200) m 15 (some mo)) m 12 = some nu := (ro6 12 (by decide)).trans rf_nu
  replace ln_nu := (kp6 nu (by rw [kd_nu]; decide)).2.2.2.trans ln_nu
  replace zr_nu := (kp6 nu (by rw [kd_nu]; decide)).1.trans zr_nu
  replace kd_nu := (kp6 nu (by rw [kd_nu]; decide)).2.2.1.trans kd_nu
  replace rf_co : hR (sR (hNew H5 mo 21 200) m 15 (some mo)) m 13 = some co := (ro6 13 (by decide)).trans rf_co
  replace ln_co := (kp6 co (by rw [kd_co]; decide)).2.2.2.trans ln_co
  replace zr_co := (kp6 co (by rw [kd_co]; decide)).1.trans zr_co
  replace kd_co := (kp6 co (by rw [kd_co]; decide)).2.2.1.trans kd_co
  have rf_mo := rk6
  clear ro6
  replace im3 := (kp6 m (by rw [km5]; decide)).1.trans im3
  clear kp6 kn6 rk6
  generalize sR (hNew H5 mo 21 200) m 15 (some mo) = H6 at *
  refine g_aload_n (pc := 59) d_MO_init_59 rfl 0 rfl ?_
  refine g_bipush (pc := 60) (v := 72) d_MO_init_60 (by decide) ?_
  show G E m_MO_init 62 _ _ _ (0 + 1) (0 + 72) _ _
  refine g_newarray (pc := 62) (kd := 23) (N := 72) d_MO_init_62 ⟨by decide, by decide⟩ rfl ac_c (by decide) (by decide) (by decide) (fun wd h_wd => ?_)
  have fr_wd : hK h0 wd = 0 := E6.fresh h_wd
  have d_wd_st : wd ≠ st := fun z => by rw [z] at h_wd; have := kd_st; omega
  have d_wd_sv : wd ≠ sv := fun z => by rw [z] at h_wd; have := kd_sv; omega
  have d_wd_mi : wd ≠ mi := fun z => by rw [z] at h_wd; have := kd_mi; omega
  have d_wd_nu : wd ≠ nu := fun z => by rw [z] at h_wd; have := kd_nu; omega
  have d_wd_co : wd ≠ co := fun z => by rw [z] at h_wd; have := kd_co; omega
  have d_wd_mo : wd ≠ mo := fun z => by rw [z] at h_wd; have := kd_mo; omega
  have k_wd : hK (hNew H6 wd 23 72) wd = 23 := by rw [hK_new, if_pos rfl]
  have l_wd : hL (hNew H6 wd 23 72) wd = 72 := by rw [hL_new, if_pos rfl]
  have nd1 : (wd :: (([] : List (Nat × (Nat → Int32))).map Prod.fst)).Nodup := List.nodup_cons.mpr ⟨List.not_mem_nil, List.nodup_nil⟩
  refine g_h (h' := wL (hNew H6 wd 23 72) ((wd, SBn wdR Z_0 0) :: [])) (wL1_self (by rw [SBn_0, hI_new, if_pos rfl]; rfl)) ?_
  refine g_dup (pc := 64) d_MO_init_64 rfl ?_
  refine g_iconst (pc := 65) (v := 0) d_MO_init_65 (by decide) ?_
  refine g_bipush (pc := 66) (v := 98) d_MO_init_66 (by decide) ?_
  refine g_lcs0 (pc := 68) (j := 0) d_MO_init_68 k_wd l_wd (by decide) (by decide) nd1 ?_
  refine g_h (congrArg (fun f => wL (hNew H6 wd 23 72) ((wd, f) :: [])) (sbn_put (k := 0) (by decide))) ?_
  refine g_dup (pc := 69) d_MO_init_69 rfl ?_
  refine g_iconst (pc := 70) (v := 1) d_MO_init_70 (by decide) ?_
  refine g_bipush (pc := 71) (v := 117) d_MO_init_71 (by decide) ?_
  refine g_lcs0 (pc := 73) (j := 1) d_MO_init_73 k_wd l_wd (by decide) (by decide) nd1 ?_
  refine g_h (congrArg (fun f => wL (hNew H6 wd 23 72) ((wd, f) :: [])) (sbn_put (k := 1) (by decide))) ?_
  refine g_dup (pc := 74) d_MO_init_74 rfl ?_
  refine g_iconst (pc := 75) (v := 2) d_MO_init_75 (by decide) ?_
  refine g_bipush (pc := 76) (v := 114) d_MO_init_76 (by decide) ?_
  refine g_lcs0 (pc := 78) (j := 2) d_MO_init_78 k_wd l_wd (by decide) (by decide) nd1 ?_
  refine g_h (congrArg (fun f => wL (hNew H6 wd 23 72) ((wd, f) :: [])) (sbn_put (k := 2) (by decide))) ?_
  refine g_dup (pc := 79) d_MO_init_79 rfl ?_
  refine g_iconst (pc := 80) (v := 3) d_MO_init_80 (by decide) ?_
  refine g_bipush (pc := 81) (v := 101) d_MO_init_81 (by decide) ?_
  refine g_lcs0 (pc := 83) (j := 3) d_MO_init_83 k_wd l_wd (by decide) (by decide) nd1 ?_
  refine g_h (congrArg (fun f => wL (hNew H6 wd 23 72) ((wd, f) :: [])) (sbn_put (k := 3) (by decide))) ?_
  refine g_dup (pc := 84) d_MO_init_84 rfl ?_
  refine g_iconst (pc := 85) (v := 4) d_MO_init_85 (by decide) ?_
  refine g_bipush (pc := 86) (v := 97) d_MO_init_86 (by decide) ?_
  refine g_lcs0 (pc := 88) (j := 4) d_MO_init_88 k_wd l_wd (by decide) (by decide) nd1 ?_
  refine g_h (congrArg (fun f => wL (hNew H6 wd 23 72) ((wd, f) :: [])) (sbn_put (k := 4) (by decide))) ?_
  refine g_dup (pc := 89) d_MO_init_89 rfl ?_
  refine g_iconst (pc := 90) (v := 5) d_MO_init_90 (by decide) ?_
  refine g_bipush (pc := 91) (v := 117) d_MO_init_91 (by decide) ?_
  refine g_lcs0 (pc := 93) (j := 5) d_MO_init_93 k_wd l_wd (by decide) (by decide) nd1 ?_
  refine g_h (congrArg (fun f => wL (hNew H6 wd 23 72) ((wd, f) :: [])) (sbn_put (k := 5) (by decide))) ?_
  refine g_dup (pc := 94) d_MO_init_94 rfl ?_
  refine g_bipush (pc := 95) (v := 6) d_MO_init_95 (by decide) ?_
  refine g_bipush (pc := 97) (v := 32) d_MO_init_97 (by decide) ?_
  refine g_lcs0 (pc := 99) (j := 6) d_MO_init_99 k_wd l_wd (by decide) (by decide) nd1 ?_
  refine g_h (congrArg (fun f => wL (hNew H6 wd 23 72) ((wd, f) :: [])) (sbn_put (k := 6) (by decide))) ?_
  refine g_dup (pc := 100) d_MO_init_100 rfl ?_
  refine g_bipush (pc := 101) (v := 7) d_MO_init_101 (by decide) ?_
  refine g_bipush (pc := 103) (v := 32) d_MO_init_103 (by decide) ?_
  refine g_lcs0 (pc := 105) (j := 7) d_MO_init_105 k_wd l_wd (by decide) (by decide) nd1 ?_
  refine g_h (congrArg (fun f => wL (hNew H6 wd 23 72) ((wd, f) :: [])) (sbn_put (k := 7) (by decide))) ?_
  refine g_dup (pc := 106) d_MO_init_106 rfl ?_
  refine g_bipush (pc := 107) (v := 8) d_MO_init_107 (by decide) ?_
  refine g_bipush (pc := 109) (v := 119) d_MO_init_109 (by decide) ?_
  refine g_lcs0 (pc := 111) (j := 8) d_MO_init_111 k_wd l_wd (by decide) (by decide) nd1 ?_
  refine g_h (congrArg (fun f => wL (hNew H6 wd 23 72) ((wd, f) :: [])) (sbn_put (k := 8) (by decide))) ?_
  refine g_dup (pc := 112) d_MO_init_112 rfl ?_
  refine g_bipush (pc := 113) (v := 9) d_MO_init_113 (by decide) ?_
  refine g_bipush (pc := 115) (v := 101) d_MO_init_115 (by decide) ?_
  refine g_lcs0 (pc := 117) (j := 9) d_MO_init_117 k_wd l_wd (by decide) (by decide) nd1 ?_
  refine g_h (congrArg (fun f => wL (hNew H6 wd 23 72) ((wd, f) :: [])) (sbn_put (k := 9) (by decide))) ?_
  refine g_dup (pc := 118) d_MO_init_118 rfl ?_
  refine g_bipush (pc := 119) (v := 10) d_MO_init_119 (by decide) ?_
  refine g_bipush (pc := 121) (v := 105) d_MO_init_121 (by decide) ?_
  refine g_lcs0 (pc := 123) (j := 10) d_MO_init_123 k_wd l_wd (by decide) (by decide) nd1 ?_
  refine g_h (congrArg (fun f => wL (hNew H6 wd 23 72) ((wd, f) :: [])) (sbn_put (k := 10) (by decide))) ?_
  refine g_dup (pc := 124) d_MO_init_124 rfl ?_
  refine g_bipush (pc := 125) (v := 11) d_MO_init_125 (by decide) ?_
  refine g_bipush (pc := 127) (v := 103) d_MO_init_127 (by decide) ?_
  refine g_lcs0 (pc := 129) (j := 11) d_MO_init_129 k_wd l_wd (by decide) (by decide) nd1 ?_
  refine g_h (congrArg (fun f => wL (hNew H6 wd 23 72) ((wd, f) :: [])) (sbn_put (k := 11) (by decide))) ?_
  refine g_dup (pc := 130) d_MO_init_130 rfl ?_
  refine g_bipush (pc := 131) (v := 12) d_MO_init_131 (by decide) ?_
  refine g_bipush (pc := 133) (v := 104) d_MO_init_133 (by decide) ?_
  refine g_lcs0 (pc := 135) (j := 12) d_MO_init_135 k_wd l_wd (by decide) (by decide) nd1 ?_
  refine g_h (congrArg (fun f => wL (hNew H6 wd 23 72) ((wd, f) :: [])) (sbn_put (k := 12) (by decide))) ?_
  refine g_dup (pc := 136) d_MO_init_136 rfl ?_
  refine g_bipush (pc := 137) (v := 13) d_MO_init_137 (by decide) ?_
  refine g_bipush (pc := 139) (v := 116) d_MO_init_139 (by decide) ?_
  refine g_lcs0 (pc := 141) (j := 13) d_MO_init_141 k_wd l_wd (by decide) (by decide) nd1 ?_
  refine g_h (congrArg (fun f => wL (hNew H6 wd 23 72) ((wd, f) :: [])) (sbn_put (k := 13) (by decide))) ?_
  refine g_dup (pc := 142) d_MO_init_142 rfl ?_
  refine g_bipush (pc := 143) (v := 14) d_MO_init_143 (by decide) ?_
  refine g_bipush (pc := 145) (v := 115) d_MO_init_145 (by decide) ?_
  refine g_lcs0 (pc := 147) (j := 14) d_MO_init_147 k_wd l_wd (by decide) (by decide) nd1 ?_
  refine g_h (congrArg (fun f => wL (hNew H6 wd 23 72) ((wd, f) :: [])) (sbn_put (k := 14) (by decide))) ?_
  refine g_dup (pc := 148) d_MO_init_148 rfl ?_
  refine g_bipush (pc := 149) (v := 15) d_MO_init_149 (by decide) ?_
  refine g_bipush (pc := 151) (v := 32) d_MO_init_151 (by decide) ?_
  refine g_lcs0 (pc := 153) (j := 15) d_MO_init_153 k_wd l_wd (by decide) (by decide) nd1 ?_
  refine g_h (congrArg (fun f => wL (hNew H6 wd 23 72) ((wd, f) :: [])) (sbn_put (k := 15) (by decide))) ?_
  refine g_dup (pc := 154) d_MO_init_154 rfl ?_
  refine g_bipush (pc := 155) (v := 16) d_MO_init_155 (by decide) ?_
  refine g_bipush (pc := 157) (v := 115) d_MO_init_157 (by decide) ?_
  refine g_lcs0 (pc := 159) (j := 16) d_MO_init_159 k_wd l_wd (by decide) (by decide) nd1 ?_
  refine g_h (congrArg (fun f => wL (hNew H6 wd 23 72) ((wd, f) :: [])) (sbn_put (k := 16) (by decide))) ?_
  refine g_dup (pc := 160) d_MO_init_160 rfl ?_
  refine g_bipush (pc := 161) (v := 17) d_MO_init_161 (by decide) ?_
  refine g_bipush (pc := 163) (v := 104) d_MO_init_163 (by decide) ?_
  refine g_lcs0 (pc := 165) (j := 17) d_MO_init_165 k_wd l_wd (by decide) (by decide) nd1 ?_
  refine g_h (congrArg (fun f => wL (hNew H6 wd 23 72) ((wd, f) :: [])) (sbn_put (k := 17) (by decide))) ?_
  refine g_dup (pc := 166) d_MO_init_166 rfl ?_
  refine g_bipush (pc := 167) (v := 18) d_MO_init_167 (by decide) ?_
  refine g_bipush (pc := 169) (v := 111) d_MO_init_169 (by decide) ?_
  refine g_lcs0 (pc := 171) (j := 18) d_MO_init_171 k_wd l_wd (by decide) (by decide) nd1 ?_
  refine g_h (congrArg (fun f => wL (hNew H6 wd 23 72) ((wd, f) :: [])) (sbn_put (k := 18) (by decide))) ?_
  refine g_dup (pc := 172) d_MO_init_172 rfl ?_
  refine g_bipush (pc := 173) (v := 19) d_MO_init_173 (by decide) ?_
  refine g_bipush (pc := 175) (v := 112) d_MO_init_175 (by decide) ?_
  refine g_lcs0 (pc := 177) (j := 19) d_MO_init_177 k_wd l_wd (by decide) (by decide) nd1 ?_
  refine g_h (congrArg (fun f => wL (hNew H6 wd 23 72) ((wd, f) :: [])) (sbn_put (k := 19) (by decide))) ?_
  refine g_dup (pc := 178) d_MO_init_178 rfl ?_
  refine g_bipush (pc := 179) (v := 20) d_MO_init_179 (by decide) ?_
  refine g_bipush (pc := 181) (v := 32) d_MO_init_181 (by decide) ?_
  refine g_lcs0 (pc := 183) (j := 20) d_MO_init_183 k_wd l_wd (by decide) (by decide) nd1 ?_
  refine g_h (congrArg (fun f => wL (hNew H6 wd 23 72) ((wd, f) :: [])) (sbn_put (k := 20) (by decide))) ?_
  refine g_dup (pc := 184) d_MO_init_184 rfl ?_
  refine g_bipush (pc := 185) (v := 21) d_MO_init_185 (by decide) ?_
  refine g_bipush (pc := 187) (v := 32) d_MO_init_187 (by decide) ?_
  refine g_lcs0 (pc := 189) (j := 21) d_MO_init_189 k_wd l_wd (by decide) (by decide) nd1 ?_
  refine g_h (congrArg (fun f => wL (hNew H6 wd 23 72) ((wd, f) :: [])) (sbn_put (k := 21) (by decide))) ?_
  refine g_dup (pc := 190) d_MO_init_190 rfl ?_
  refine g_bipush (pc := 191) (v := 22) d_MO_init_191 (by decide) ?_
  refine g_bipush (pc := 193) (v := 32) d_MO_init_193 (by decide) ?_
  refine g_lcs0 (pc := 195) (j := 22) d_MO_init_195 k_wd l_wd (by decide) (by decide) nd1 ?_
  refine g_h (congrArg (fun f => wL (hNew H6 wd 23 72) ((wd, f) :: [])) (sbn_put (k := 22) (by decide))) ?_
  refine g_dup (pc := 196) d_MO_init_196 rfl ?_
  refine g_bipush (pc := 197) (v := 23) d_MO_init_197 (by decide) ?_
  refine g_bipush (pc := 199) (v := 32) d_MO_init_199 (by decide) ?_
  refine g_lcs0 (pc := 201) (j := 23) d_MO_init_201 k_wd l_wd (by decide) (by decide) nd1 ?_
  refine g_h (congrArg (fun f => wL (hNew H6 wd 23 72) ((wd, f) :: [])) (sbn_put (k := 23) (by decide))) ?_
  refine g_dup (pc := 202) d_MO_init_202 rfl ?_
  refine g_bipush (pc := 203) (v := 24) d_MO_init_203 (by decide) ?_
  refine g_bipush (pc := 205) (v := 100) d_MO_init_205 (by decide) ?_
  refine g_lcs0 (pc := 207) (j := 24) d_MO_init_207 k_wd l_wd (by decide) (by decide) nd1 ?_
  refine g_h (congrArg (fun f => wL (hNew H6 wd 23 72) ((wd, f) :: [])) (sbn_put (k := 24) (by decide))) ?_
  refine g_dup (pc := 208) d_MO_init_208 rfl ?_
  refine g_bipush (pc := 209) (v := 25) d_MO_init_209 (by decide) ?_
  refine g_bipush (pc := 211) (v := 97) d_MO_init_211 (by decide) ?_
  refine g_lcs0 (pc := 213) (j := 25) d_MO_init_213 k_wd l_wd (by decide) (by decide) nd1 ?_
  refine g_h (congrArg (fun f => wL (hNew H6 wd 23 72) ((wd, f) :: [])) (sbn_put (k := 25) (by decide))) ?_
  refine g_dup (pc := 214) d_MO_init_214 rfl ?_
  refine g_bipush (pc := 215) (v := 26) d_MO_init_215 (by decide) ?_
  refine g_bipush (pc := 217) (v := 121) d_MO_init_217 (by decide) ?_
  refine g_lcs0 (pc := 219) (j := 26) d_MO_init_219 k_wd l_wd (by decide) (by decide) nd1 ?_
  refine g_h (congrArg (fun f => wL (hNew H6 wd 23 72) ((wd, f) :: [])) (sbn_put (k := 26) (by decide))) ?_
  refine g_dup (pc := 220) d_MO_init_220 rfl ?_
  refine g_bipush (pc := 221) (v := 27) d_MO_init_221 (by decide) ?_
  refine g_bipush (pc := 223) (v := 115) d_MO_init_223 (by decide) ?_
  refine g_lcs0 (pc := 225) (j := 27) d_MO_init_225 k_wd l_wd (by decide) (by decide) nd1 ?_
  refine g_h (congrArg (fun f => wL (hNew H6 wd 23 72) ((wd, f) :: [])) (sbn_put (k := 27) (by decide))) ?_
  refine g_dup (pc := 226) d_MO_init_226 rfl ?_
  refine g_bipush (pc := 227) (v := 28) d_MO_init_227 (by decide) ?_
  refine g_bipush (pc := 229) (v := 32) d_MO_init_229 (by decide) ?_
  refine g_lcs0 (pc := 231) (j := 28) d_MO_init_231 k_wd l_wd (by decide) (by decide) nd1 ?_
  refine g_h (congrArg (fun f => wL (hNew H6 wd 23 72) ((wd, f) :: [])) (sbn_put (k := 28) (by decide))) ?_
  refine g_dup (pc := 232) d_MO_init_232 rfl ?_
  refine g_bipush (pc := 233) (v := 29) d_MO_init_233 (by decide) ?_
  refine g_bipush (pc := 235) (v := 32) d_MO_init_235 (by decide) ?_
  refine g_lcs0 (pc := 237) (j := 29) d_MO_init_237 k_wd l_wd (by decide) (by decide) nd1 ?_
  refine g_h (congrArg (fun f => wL (hNew H6 wd 23 72) ((wd, f) :: [])) (sbn_put (k := 29) (by decide))) ?_
  refine g_dup (pc := 238) d_MO_init_238 rfl ?_
  refine g_bipush (pc := 239) (v := 30) d_MO_init_239 (by decide) ?_
  refine g_bipush (pc := 241) (v := 32) d_MO_init_241 (by decide) ?_
  refine g_lcs0 (pc := 243) (j := 30) d_MO_init_243 k_wd l_wd (by decide) (by decide) nd1 ?_
  refine g_h (congrArg (fun f => wL (hNew H6 wd 23 72) ((wd, f) :: [])) (sbn_put (k := 30) (by decide))) ?_
  refine g_dup (pc := 244) d_MO_init_244 rfl ?_
  refine g_bipush (pc := 245) (v := 31) d_MO_init_245 (by decide) ?_
  refine g_bipush (pc := 247) (v := 32) d_MO_init_247 (by decide) ?_
  refine g_lcs0 (pc := 249) (j := 31) d_MO_init_249 k_wd l_wd (by decide) (by decide) nd1 ?_
  refine g_h (congrArg (fun f => wL (hNew H6 wd 23 72) ((wd, f) :: [])) (sbn_put (k := 31) (by decide))) ?_
  refine g_dup (pc := 250) d_MO_init_250 rfl ?_
  refine g_bipush (pc := 251) (v := 32) d_MO_init_251 (by decide) ?_
  refine g_bipush (pc := 253) (v := 118) d_MO_init_253 (by decide) ?_
  refine g_lcs0 (pc := 255) (j := 32) d_MO_init_255 k_wd l_wd (by decide) (by decide) nd1 ?_
  refine g_h (congrArg (fun f => wL (hNew H6 wd 23 72) ((wd, f) :: [])) (sbn_put (k := 32) (by decide))) ?_
  refine g_dup (pc := 256) d_MO_init_256 rfl ?_
  refine g_bipush (pc := 257) (v := 33) d_MO_init_257 (by decide) ?_
  refine g_bipush (pc := 259) (v := 105) d_MO_init_259 (by decide) ?_
  refine g_lcs0 (pc := 261) (j := 33) d_MO_init_261 k_wd l_wd (by decide) (by decide) nd1 ?_
  refine g_h (congrArg (fun f => wL (hNew H6 wd 23 72) ((wd, f) :: [])) (sbn_put (k := 33) (by decide))) ?_
  refine g_dup (pc := 262) d_MO_init_262 rfl ?_
  refine g_bipush (pc := 263) (v := 34) d_MO_init_263 (by decide) ?_
  refine g_bipush (pc := 265) (v := 115) d_MO_init_265 (by decide) ?_
  refine g_lcs0 (pc := 267) (j := 34) d_MO_init_267 k_wd l_wd (by decide) (by decide) nd1 ?_
  refine g_h (congrArg (fun f => wL (hNew H6 wd 23 72) ((wd, f) :: [])) (sbn_put (k := 34) (by decide))) ?_
  refine g_dup (pc := 268) d_MO_init_268 rfl ?_
  refine g_bipush (pc := 269) (v := 35) d_MO_init_269 (by decide) ?_
  refine g_bipush (pc := 271) (v := 105) d_MO_init_271 (by decide) ?_
  refine g_lcs0 (pc := 273) (j := 35) d_MO_init_273 k_wd l_wd (by decide) (by decide) nd1 ?_
  refine g_h (congrArg (fun f => wL (hNew H6 wd 23 72) ((wd, f) :: [])) (sbn_put (k := 35) (by decide))) ?_
  refine g_dup (pc := 274) d_MO_init_274 rfl ?_
  refine g_bipush (pc := 275) (v := 36) d_MO_init_275 (by decide) ?_
  refine g_bipush (pc := 277) (v := 116) d_MO_init_277 (by decide) ?_
  refine g_lcs0 (pc := 279) (j := 36) d_MO_init_279 k_wd l_wd (by decide) (by decide) nd1 ?_
  refine g_h (congrArg (fun f => wL (hNew H6 wd 23 72) ((wd, f) :: [])) (sbn_put (k := 36) (by decide))) ?_
  refine g_dup (pc := 280) d_MO_init_280 rfl ?_
  refine g_bipush (pc := 281) (v := 37) d_MO_init_281 (by decide) ?_
  refine g_bipush (pc := 283) (v := 32) d_MO_init_283 (by decide) ?_
  refine g_lcs0 (pc := 285) (j := 37) d_MO_init_285 k_wd l_wd (by decide) (by decide) nd1 ?_
  refine g_h (congrArg (fun f => wL (hNew H6 wd 23 72) ((wd, f) :: [])) (sbn_put (k := 37) (by decide))) ?_
  refine g_dup (pc := 286) d_MO_init_286 rfl ?_
  refine g_bipush (pc := 287) (v := 38) d_MO_init_287 (by decide) ?_
  refine g_bipush (pc := 289) (v := 32) d_MO_init_289 (by decide) ?_
  refine g_lcs0 (pc := 291) (j := 38) d_MO_init_291 k_wd l_wd (by decide) (by decide) nd1 ?_
  refine g_h (congrArg (fun f => wL (hNew H6 wd 23 72) ((wd, f) :: [])) (sbn_put (k := 38) (by decide))) ?_
  refine g_dup (pc := 292) d_MO_init_292 rfl ?_
  refine g_bipush (pc := 293) (v := 39) d_MO_init_293 (by decide) ?_
  refine g_bipush (pc := 295) (v := 32) d_MO_init_295 (by decide) ?_
  refine g_lcs0 (pc := 297) (j := 39) d_MO_init_297 k_wd l_wd (by decide) (by decide) nd1 ?_
  refine g_h (congrArg (fun f => wL (hNew H6 wd 23 72) ((wd, f) :: [])) (sbn_put (k := 39) (by decide))) ?_
  refine g_dup (pc := 298) d_MO_init_298 rfl ?_
  refine g_bipush (pc := 299) (v := 40) d_MO_init_299 (by decide) ?_
  refine g_bipush (pc := 301) (v := 114) d_MO_init_301 (by decide) ?_
  refine g_lcs0 (pc := 303) (j := 40) d_MO_init_303 k_wd l_wd (by decide) (by decide) nd1 ?_
  refine g_h (congrArg (fun f => wL (hNew H6 wd 23 72) ((wd, f) :: [])) (sbn_put (k := 40) (by decide))) ?_
  refine g_dup (pc := 304) d_MO_init_304 rfl ?_
  refine g_bipush (pc := 305) (v := 41) d_MO_init_305 (by decide) ?_
  refine g_bipush (pc := 307) (v := 101) d_MO_init_307 (by decide) ?_
  refine g_lcs0 (pc := 309) (j := 41) d_MO_init_309 k_wd l_wd (by decide) (by decide) nd1 ?_
  refine g_h (congrArg (fun f => wL (hNew H6 wd 23 72) ((wd, f) :: [])) (sbn_put (k := 41) (by decide))) ?_
  refine g_dup (pc := 310) d_MO_init_310 rfl ?_
  refine g_bipush (pc := 311) (v := 42) d_MO_init_311 (by decide) ?_
  refine g_bipush (pc := 313) (v := 112) d_MO_init_313 (by decide) ?_
  refine g_lcs0 (pc := 315) (j := 42) d_MO_init_315 k_wd l_wd (by decide) (by decide) nd1 ?_
  refine g_h (congrArg (fun f => wL (hNew H6 wd 23 72) ((wd, f) :: [])) (sbn_put (k := 42) (by decide))) ?_
  refine g_dup (pc := 316) d_MO_init_316 rfl ?_
  refine g_bipush (pc := 317) (v := 43) d_MO_init_317 (by decide) ?_
  refine g_bipush (pc := 319) (v := 97) d_MO_init_319 (by decide) ?_
  refine g_lcs0 (pc := 321) (j := 43) d_MO_init_321 k_wd l_wd (by decide) (by decide) nd1 ?_
  refine g_h (congrArg (fun f => wL (hNew H6 wd 23 72) ((wd, f) :: [])) (sbn_put (k := 43) (by decide))) ?_
  refine g_dup (pc := 322) d_MO_init_322 rfl ?_
  refine g_bipush (pc := 323) (v := 44) d_MO_init_323 (by decide) ?_
  refine g_bipush (pc := 325) (v := 105) d_MO_init_325 (by decide) ?_
  refine g_lcs0 (pc := 327) (j := 44) d_MO_init_327 k_wd l_wd (by decide) (by decide) nd1 ?_
  refine g_h (congrArg (fun f => wL (hNew H6 wd 23 72) ((wd, f) :: [])) (sbn_put (k := 44) (by decide))) ?_
  refine g_dup (pc := 328) d_MO_init_328 rfl ?_
  refine g_bipush (pc := 329) (v := 45) d_MO_init_329 (by decide) ?_
  refine g_bipush (pc := 331) (v := 114) d_MO_init_331 (by decide) ?_
  refine g_lcs0 (pc := 333) (j := 45) d_MO_init_333 k_wd l_wd (by decide) (by decide) nd1 ?_
  refine g_h (congrArg (fun f => wL (hNew H6 wd 23 72) ((wd, f) :: [])) (sbn_put (k := 45) (by decide))) ?_
  refine g_dup (pc := 334) d_MO_init_334 rfl ?_
  refine g_bipush (pc := 335) (v := 46) d_MO_init_335 (by decide) ?_
  refine g_bipush (pc := 337) (v := 32) d_MO_init_337 (by decide) ?_
  refine g_lcs0 (pc := 339) (j := 46) d_MO_init_339 k_wd l_wd (by decide) (by decide) nd1 ?_
  refine g_h (congrArg (fun f => wL (hNew H6 wd 23 72) ((wd, f) :: [])) (sbn_put (k := 46) (by decide))) ?_
  refine g_dup (pc := 340) d_MO_init_340 rfl ?_
  refine g_bipush (pc := 341) (v := 47) d_MO_init_341 (by decide) ?_
  refine g_bipush (pc := 343) (v := 32) d_MO_init_343 (by decide) ?_
  refine g_lcs0 (pc := 345) (j := 47) d_MO_init_345 k_wd l_wd (by decide) (by decide) nd1 ?_
  refine g_h (congrArg (fun f => wL (hNew H6 wd 23 72) ((wd, f) :: [])) (sbn_put (k := 47) (by decide))) ?_
  refine g_dup (pc := 346) d_MO_init_346 rfl ?_
  refine g_bipush (pc := 347) (v := 48) d_MO_init_347 (by decide) ?_
  refine g_bipush (pc := 349) (v := 116) d_MO_init_349 (by decide) ?_
  refine g_lcs0 (pc := 351) (j := 48) d_MO_init_351 k_wd l_wd (by decide) (by decide) nd1 ?_
  refine g_h (congrArg (fun f => wL (hNew H6 wd 23 72) ((wd, f) :: [])) (sbn_put (k := 48) (by decide))) ?_
  refine g_dup (pc := 352) d_MO_init_352 rfl ?_
  refine g_bipush (pc := 353) (v := 49) d_MO_init_353 (by decide) ?_
  refine g_bipush (pc := 355) (v := 104) d_MO_init_355 (by decide) ?_
  refine g_lcs0 (pc := 357) (j := 49) d_MO_init_357 k_wd l_wd (by decide) (by decide) nd1 ?_
  refine g_h (congrArg (fun f => wL (hNew H6 wd 23 72) ((wd, f) :: [])) (sbn_put (k := 49) (by decide))) ?_
  refine g_dup (pc := 358) d_MO_init_358 rfl ?_
  refine g_bipush (pc := 359) (v := 50) d_MO_init_359 (by decide) ?_
  refine g_bipush (pc := 361) (v := 117) d_MO_init_361 (by decide) ?_
  refine g_lcs0 (pc := 363) (j := 50) d_MO_init_363 k_wd l_wd (by decide) (by decide) nd1 ?_
  refine g_h (congrArg (fun f => wL (hNew H6 wd 23 72) ((wd, f) :: [])) (sbn_put (k := 50) (by decide))) ?_
  refine g_dup (pc := 364) d_MO_init_364 rfl ?_
  refine g_bipush (pc := 365) (v := 51) d_MO_init_365 (by decide) ?_
  refine g_bipush (pc := 367) (v := 109) d_MO_init_367 (by decide) ?_
  refine g_lcs0 (pc := 369) (j := 51) d_MO_init_369 k_wd l_wd (by decide) (by decide) nd1 ?_
  refine g_h (congrArg (fun f => wL (hNew H6 wd 23 72) ((wd, f) :: [])) (sbn_put (k := 51) (by decide))) ?_
  refine g_dup (pc := 370) d_MO_init_370 rfl ?_
  refine g_bipush (pc := 371) (v := 52) d_MO_init_371 (by decide) ?_
  refine g_bipush (pc := 373) (v := 98) d_MO_init_373 (by decide) ?_
  refine g_lcs0 (pc := 375) (j := 52) d_MO_init_375 k_wd l_wd (by decide) (by decide) nd1 ?_
  refine g_h (congrArg (fun f => wL (hNew H6 wd 23 72) ((wd, f) :: [])) (sbn_put (k := 52) (by decide))) ?_
  refine g_dup (pc := 376) d_MO_init_376 rfl ?_
  refine g_bipush (pc := 377) (v := 53) d_MO_init_377 (by decide) ?_
  refine g_bipush (pc := 379) (v := 32) d_MO_init_379 (by decide) ?_
  refine g_lcs0 (pc := 381) (j := 53) d_MO_init_381 k_wd l_wd (by decide) (by decide) nd1 ?_
  refine g_h (congrArg (fun f => wL (hNew H6 wd 23 72) ((wd, f) :: [])) (sbn_put (k := 53) (by decide))) ?_
  refine g_dup (pc := 382) d_MO_init_382 rfl ?_
  refine g_bipush (pc := 383) (v := 54) d_MO_init_383 (by decide) ?_
  refine g_bipush (pc := 385) (v := 32) d_MO_init_385 (by decide) ?_
  refine g_lcs0 (pc := 387) (j := 54) d_MO_init_387 k_wd l_wd (by decide) (by decide) nd1 ?_
  refine g_h (congrArg (fun f => wL (hNew H6 wd 23 72) ((wd, f) :: [])) (sbn_put (k := 54) (by decide))) ?_
  refine g_dup (pc := 388) d_MO_init_388 rfl ?_
  refine g_bipush (pc := 389) (v := 55) d_MO_init_389 (by decide) ?_
  refine g_bipush (pc := 391) (v := 32) d_MO_init_391 (by decide) ?_
  refine g_lcs0 (pc := 393) (j := 55) d_MO_init_393 k_wd l_wd (by decide) (by decide) nd1 ?_
  refine g_h (congrArg (fun f => wL (hNew H6 wd 23 72) ((wd, f) :: [])) (sbn_put (k := 55) (by decide))) ?_
  refine g_dup (pc := 394) d_MO_init_394 rfl ?_
  refine g_bipush (pc := 395) (v := 56) d_MO_init_395 (by decide) ?_
  refine g_bipush (pc := 397) (v := 99) d_MO_init_397 (by decide) ?_
  refine g_lcs0 (pc := 399) (j := 56) d_MO_init_399 k_wd l_wd (by decide) (by decide) nd1 ?_
  refine g_h (congrArg (fun f => wL (hNew H6 wd 23 72) ((wd, f) :: [])) (sbn_put (k := 56) (by decide))) ?_
  refine g_dup (pc := 400) d_MO_init_400 rfl ?_
  refine g_bipush (pc := 401) (v := 57) d_MO_init_401 (by decide) ?_
  refine g_bipush (pc := 403) (v := 111) d_MO_init_403 (by decide) ?_
  refine g_lcs0 (pc := 405) (j := 57) d_MO_init_405 k_wd l_wd (by decide) (by decide) nd1 ?_
  refine g_h (congrArg (fun f => wL (hNew H6 wd 23 72) ((wd, f) :: [])) (sbn_put (k := 57) (by decide))) ?_
  refine g_dup (pc := 406) d_MO_init_406 rfl ?_
  refine g_bipush (pc := 407) (v := 58) d_MO_init_407 (by decide) ?_
  refine g_bipush (pc := 409) (v := 109) d_MO_init_409 (by decide) ?_
  refine g_lcs0 (pc := 411) (j := 58) d_MO_init_411 k_wd l_wd (by decide) (by decide) nd1 ?_
  refine g_h (congrArg (fun f => wL (hNew H6 wd 23 72) ((wd, f) :: [])) (sbn_put (k := 58) (by decide))) ?_
  refine g_dup (pc := 412) d_MO_init_412 rfl ?_
  refine g_bipush (pc := 413) (v := 59) d_MO_init_413 (by decide) ?_
  refine g_bipush (pc := 415) (v := 112) d_MO_init_415 (by decide) ?_
  refine g_lcs0 (pc := 417) (j := 59) d_MO_init_417 k_wd l_wd (by decide) (by decide) nd1 ?_
  refine g_h (congrArg (fun f => wL (hNew H6 wd 23 72) ((wd, f) :: [])) (sbn_put (k := 59) (by decide))) ?_
  refine g_dup (pc := 418) d_MO_init_418 rfl ?_
  refine g_bipush (pc := 419) (v := 60) d_MO_init_419 (by decide) ?_
  refine g_bipush (pc := 421) (v := 108) d_MO_init_421 (by decide) ?_
  refine g_lcs0 (pc := 423) (j := 60) d_MO_init_423 k_wd l_wd (by decide) (by decide) nd1 ?_
  refine g_h (congrArg (fun f => wL (hNew H6 wd 23 72) ((wd, f) :: [])) (sbn_put (k := 60) (by decide))) ?_
  refine g_dup (pc := 424) d_MO_init_424 rfl ?_
  refine g_bipush (pc := 425) (v := 61) d_MO_init_425 (by decide) ?_
  refine g_bipush (pc := 427) (v := 97) d_MO_init_427 (by decide) ?_
  refine g_lcs0 (pc := 429) (j := 61) d_MO_init_429 k_wd l_wd (by decide) (by decide) nd1 ?_
  refine g_h (congrArg (fun f => wL (hNew H6 wd 23 72) ((wd, f) :: [])) (sbn_put (k := 61) (by decide))) ?_
  refine g_dup (pc := 430) d_MO_init_430 rfl ?_
  refine g_bipush (pc := 431) (v := 62) d_MO_init_431 (by decide) ?_
  refine g_bipush (pc := 433) (v := 105) d_MO_init_433 (by decide) ?_
  refine g_lcs0 (pc := 435) (j := 62) d_MO_init_435 k_wd l_wd (by decide) (by decide) nd1 ?_
  refine g_h (congrArg (fun f => wL (hNew H6 wd 23 72) ((wd, f) :: [])) (sbn_put (k := 62) (by decide))) ?_
  refine g_dup (pc := 436) d_MO_init_436 rfl ?_
  refine g_bipush (pc := 437) (v := 63) d_MO_init_437 (by decide) ?_
  refine g_bipush (pc := 439) (v := 110) d_MO_init_439 (by decide) ?_
  refine g_lcs0 (pc := 441) (j := 63) d_MO_init_441 k_wd l_wd (by decide) (by decide) nd1 ?_
  refine g_h (congrArg (fun f => wL (hNew H6 wd 23 72) ((wd, f) :: [])) (sbn_put (k := 63) (by decide))) ?_
  refine g_dup (pc := 442) d_MO_init_442 rfl ?_
  refine g_bipush (pc := 443) (v := 64) d_MO_init_443 (by decide) ?_
  refine g_bipush (pc := 445) (v := 111) d_MO_init_445 (by decide) ?_
  refine g_lcs0 (pc := 447) (j := 64) d_MO_init_447 k_wd l_wd (by decide) (by decide) nd1 ?_
  refine g_h (congrArg (fun f => wL (hNew H6 wd 23 72) ((wd, f) :: [])) (sbn_put (k := 64) (by decide))) ?_
  refine g_dup (pc := 448) d_MO_init_448 rfl ?_
  refine g_bipush (pc := 449) (v := 65) d_MO_init_449 (by decide) ?_
  refine g_bipush (pc := 451) (v := 112) d_MO_init_451 (by decide) ?_
  refine g_lcs0 (pc := 453) (j := 65) d_MO_init_453 k_wd l_wd (by decide) (by decide) nd1 ?_
  refine g_h (congrArg (fun f => wL (hNew H6 wd 23 72) ((wd, f) :: [])) (sbn_put (k := 65) (by decide))) ?_
  refine g_dup (pc := 454) d_MO_init_454 rfl ?_
  refine g_bipush (pc := 455) (v := 66) d_MO_init_455 (by decide) ?_
  refine g_bipush (pc := 457) (v := 101) d_MO_init_457 (by decide) ?_
  refine g_lcs0 (pc := 459) (j := 66) d_MO_init_459 k_wd l_wd (by decide) (by decide) nd1 ?_
  refine g_h (congrArg (fun f => wL (hNew H6 wd 23 72) ((wd, f) :: [])) (sbn_put (k := 66) (by decide))) ?_
  refine g_dup (pc := 460) d_MO_init_460 rfl ?_
  refine g_bipush (pc := 461) (v := 67) d_MO_init_461 (by decide) ?_
  refine g_bipush (pc := 463) (v := 110) d_MO_init_463 (by decide) ?_
  refine g_lcs0 (pc := 465) (j := 67) d_MO_init_465 k_wd l_wd (by decide) (by decide) nd1 ?_
  refine g_h (congrArg (fun f => wL (hNew H6 wd 23 72) ((wd, f) :: [])) (sbn_put (k := 67) (by decide))) ?_
  refine g_dup (pc := 466) d_MO_init_466 rfl ?_
  refine g_bipush (pc := 467) (v := 68) d_MO_init_467 (by decide) ?_
  refine g_bipush (pc := 469) (v := 32) d_MO_init_469 (by decide) ?_
  refine g_lcs0 (pc := 471) (j := 68) d_MO_init_471 k_wd l_wd (by decide) (by decide) nd1 ?_
  refine g_h (congrArg (fun f => wL (hNew H6 wd 23 72) ((wd, f) :: [])) (sbn_put (k := 68) (by decide))) ?_
  refine g_dup (pc := 472) d_MO_init_472 rfl ?_
  refine g_bipush (pc := 473) (v := 69) d_MO_init_473 (by decide) ?_
  refine g_bipush (pc := 475) (v := 32) d_MO_init_475 (by decide) ?_
  refine g_lcs0 (pc := 477) (j := 69) d_MO_init_477 k_wd l_wd (by decide) (by decide) nd1 ?_
  refine g_h (congrArg (fun f => wL (hNew H6 wd 23 72) ((wd, f) :: [])) (sbn_put (k := 69) (by decide))) ?_
  refine g_dup (pc := 478) d_MO_init_478 rfl ?_
  refine g_bipush (pc := 479) (v := 70) d_MO_init_479 (by decide) ?_
  refine g_bipush (pc := 481) (v := 32) d_MO_init_481 (by decide) ?_
  refine g_lcs0 (pc := 483) (j := 70) d_MO_init_483 k_wd l_wd (by decide) (by decide) nd1 ?_
  refine g_h (congrArg (fun f => wL (hNew H6 wd 23 72) ((wd, f) :: [])) (sbn_put (k := 70) (by decide))) ?_
  refine g_dup (pc := 484) d_MO_init_484 rfl ?_
  refine g_bipush (pc := 485) (v := 71) d_MO_init_485 (by decide) ?_
  refine g_bipush (pc := 487) (v := 32) d_MO_init_487 (by decide) ?_
  refine g_lcs0 (pc := 489) (j := 71) d_MO_init_489 k_wd l_wd (by decide) (by decide) nd1 ?_
  refine g_h (congrArg (fun f => wL (hNew H6 wd 23 72) ((wd, f) :: [])) (sbn_put (k := 71) (by decide))) ?_
  obtain ⟨n_wd, kp7, ro7, rk7, kd_wd, ln_wd, zr_wd, kn7⟩ := ns (k := 18) (kd := 23) (N := 72) h_wd (show hK H6 m ≠ 0 by rw [km6]; decide)
  refine g_putFR (pc := 490) (ci := 7) (f := 18) rfl d_MO_init_490 fl_MO_34 (fun q hq => by cases hq; exact ⟨rfl, rfl⟩) rfl rfl rfl (by decide) (kn7.trans km6) ?_
  have E7 : Ext h0 (sR (hNew H6 wd 23 72) m 18 (some wd)) := (E6.new h_wd).sR hm
  have km7 : hK (sR (hNew H6 wd 23 72) m 18 (some wd)) m = 8 := kn7.trans km6
  replace im3 := (kp7 m (by rw [km6]; decide)).1.trans im3
  replace rf_st := (ro7 0 (by decide)).trans rf_st
  replace ln_st := (kp7 st (by rw [kd_st]; decide)).2.2.2.trans ln_st
  replace zr_st := (kp7 st (by rw [kd_st]; decide)).1.trans zr_st
  replace kd_st := (kp7 st (by rw [kd_st]; decide)).2.2.1.trans kd_st
  replace rf_sv := (ro7 3 (by decide)).trans rf_sv
  replace ln_sv := (kp7 sv (by rw [kd_sv]; decide)).2.2.2.trans ln_sv
  replace zr_sv := (kp7 sv (by rw [kd_sv]; decide)).1.trans zr_sv
  replace kd_sv := (kp7 sv (by rw [kd_sv]; decide)).2.2.1.trans kd_sv
  replace rf_mi := (ro7 4 (by decide)).trans rf_mi
  replace ln_mi := (kp7 mi (by rw [kd_mi]; decide)).2.2.2.trans ln_mi
  replace zr_mi := (kp7 mi (by rw [kd_mi]; decide)).1.trans zr_mi
  replace kd_mi := (kp7 mi (by rw [kd_mi]; decide)).2.2.1.trans kd_mi
  replace rf_nu := (ro7 12 (by decide)).trans rf_nu
  replace ln_nu := (kp7 nu (by rw [kd_nu]; decide)).2.2.2.trans ln_nu
  replace zr_nu := (kp7 nu (by rw [kd_nu]; decide)).1.trans zr_nu
  replace kd_nu := (kp7 nu (by rw [kd_nu]; decide)).2.2.1.trans kd_nu
  replace rf_co := (ro7 13 (by decide)).trans rf_co
  replace ln_co := (kp7 co (by rw [kd_co]; decide)).2.2.2.trans ln_co
  replace zr_co := (kp7 co (by rw [kd_co]; decide)).1.trans zr_co
  replace kd_co := (kp7 co (by rw [kd_co]; decide)).2.2.1.trans kd_co
  replace rf_mo := (ro7 15 (by decide)).trans rf_mo
  replace ln_mo := (kp7 mo (by rw [kd_mo]; decide)).2.2.2.trans ln_mo
  replace zr_mo := (kp7 mo (by rw [kd_mo]; decide)).1.trans zr_mo
  replace kd_mo := (kp7 mo (by rw [kd_mo]; decide)).2.2.1.trans kd_mo
  have W8 : sR (wL (hNew H6 wd 23 72) ((wd, SBn wdR Z_0 72) :: [])) m 18 (some wd) = sA (sR (hNew H6 wd 23 72) m 18 (some wd)) wd wdR := by rw [wdR_72]; rfl
  refine g_h W8 ?_
  generalize sR (hNew H6 wd 23 72) m 18 (some wd) = H7 at *
  have E8 : Ext h0 (sA H7 wd wdR) := fun q hq => by
    obtain ⟨y1, y2⟩ := E7 q hq
    refine ⟨?_, y2⟩
    show (if q = wd then wdR else hI H7 q) = hI h0 q
    have hne : q ≠ wd := fun z => hq (by rw [z]; exact fr_wd)
    rw [if_neg hne]
    exact y1
  have zz : ∀ q, q ≠ wd → hI (sA H7 wd wdR) q = hI H7 q := fun q hq => if_neg hq
  have iwd : hI (sA H7 wd wdR) wd = wdR := if_pos rfl
  replace im3 := (zz m (Ne.symm n_wd)).trans im3
  replace zr_st := (zz st (Ne.symm d_wd_st)).trans zr_st
  replace zr_sv := (zz sv (Ne.symm d_wd_sv)).trans zr_sv
  replace zr_mi := (zz mi (Ne.symm d_wd_mi)).trans zr_mi
  replace zr_nu := (zz nu (Ne.symm d_wd_nu)).trans zr_nu
  replace zr_co := (zz co (Ne.symm d_wd_co)).trans zr_co
  replace zr_mo := (zz mo (Ne.symm d_wd_mo)).trans zr_mo
  have hM : MpOk (sA H7 wd wdR) m st mi nu co wd := ⟨km7, rf_st, kd_st, ln_st, rf_mi, kd_mi, ln_mi, rf_nu, kd_nu, ln_nu, rf_co, kd_co, ln_co, rk7, kd_wd, ln_wd⟩
  have hU : MuOk (sA H7 wd wdR) m mo := ⟨rf_mo, kd_mo, ln_mo⟩
  have hV : hR (sA H7 wd wdR) m 3 = some sv ∧ hK (sA H7 wd wdR) sv = 22 ∧ hL (sA H7 wd wdR) sv = 2 := ⟨rf_sv, kd_sv, ln_sv⟩
  have nd : (m :: st :: mi :: nu :: co :: wd :: (([] : List (Nat × (Nat → Int32))).map Prod.fst)).Nodup := by
    simp only [List.map_nil, List.nodup_cons, List.mem_cons, List.not_mem_nil, or_false, not_or]
    exact ⟨⟨Ne.symm n_st, Ne.symm n_mi, Ne.symm n_nu, Ne.symm n_co, Ne.symm n_wd⟩, ⟨Ne.symm d_mi_st, Ne.symm d_nu_st, Ne.symm d_co_st, Ne.symm d_wd_st⟩, ⟨Ne.symm d_nu_mi, Ne.symm d_co_mi, Ne.symm d_wd_mi⟩, ⟨Ne.symm d_co_nu, Ne.symm d_wd_nu⟩, Ne.symm d_wd_co, fun z => z, List.nodup_nil⟩
  have fr : Fr h0 [wd, mo, co, nu, mi, sv, st, m] := by
    refine ((((((((Fr.nil.cons hm (by simp)).cons fr_st ?_).cons fr_sv ?_).cons fr_mi ?_).cons fr_nu ?_).cons fr_co ?_).cons fr_mo ?_).cons fr_wd ?_) <;> simp only [List.mem_cons, List.not_mem_nil, or_false, not_or]
    · exact n_st
    · exact ⟨d_sv_st, n_sv⟩
    · exact ⟨d_mi_sv, d_mi_st, n_mi⟩
    · exact ⟨d_nu_mi, d_nu_sv, d_nu_st, n_nu⟩
    · exact ⟨d_co_nu, d_co_mi, d_co_sv, d_co_st, n_co⟩
    · exact ⟨d_mo_co, d_mo_nu, d_mo_mi, d_mo_sv, d_mo_st, n_mo⟩
    · exact ⟨d_wd_mo, d_wd_co, d_wd_nu, d_wd_mi, d_wd_sv, d_wd_st, n_wd⟩
  refine g_h (wL6_self im3 zr_st zr_mi zr_nu zr_co iwd) ?_
  have l8 : ∀ q f, q ≠ m → q ≠ st → q ≠ nu → hI (sA H7 wd wdR) q = f → hI (wL (sA H7 wd wdR) ((m, cM_0) :: (st, G_7) :: (mi, Z_0) :: (nu, N_3) :: (co, Z_0) :: (wd, wdR) :: [])) q = f := fun q f q1 q2 q3 e => by
    show wLf _ _ q = f
    simp only [wLf, if_neg q1, if_neg q2, if_neg q3]
    by_cases c1 : q = mi
    · rw [if_pos c1, ← e, c1, zr_mi]
    · rw [if_neg c1]
      by_cases c2 : q = co
      · rw [if_pos c2, ← e, c2, zr_co]
      · rw [if_neg c2]
        by_cases c3 : q = wd
        · rw [if_pos c3, ← e, c3, iwd]
        · rw [if_neg c3]; exact e
  generalize sA H7 wd wdR = H8 at *
  obtain ⟨k_m, r_m_0, k_st, l_st, r_m_4, k_mi, l_mi, r_m_12, k_nu, l_nu, -⟩ := id hM
  have hMo : MoOk H8 m st := ⟨k_m, r_m_0, k_st, l_st⟩
  refine g_aload_n (pc := 493) d_MO_init_493 rfl 0 rfl ?_
  refine g_getR (pc := 494) (ci := 7) (f := 0) (b := st) rfl r_m_0 d_MO_init_494 fl_MO_7 (by decide) k_m ?_
  refine g_iconst (pc := 497) (v := 0) d_MO_init_497 (by decide) ?_
  refine g_iconst (pc := 498) (v := 5) d_MO_init_498 (by decide) ?_
  refine g_lis1 (pc := 499) (j := 0) d_MO_init_499 k_st l_st (by decide) (by decide) nd ?_
  refine g_aload_n (pc := 500) d_MO_init_500 rfl 0 rfl ?_
  refine g_getR (pc := 501) (ci := 7) (f := 0) (b := st) rfl r_m_0 d_MO_init_501 fl_MO_7 (by decide) k_m ?_
  refine g_iconst (pc := 504) (v := 1) d_MO_init_504 (by decide) ?_
  refine g_bipush (pc := 505) (v := 10) d_MO_init_505 (by decide) ?_
  refine g_lis1 (pc := 507) (j := 1) d_MO_init_507 k_st l_st (by decide) (by decide) nd ?_
  refine g_aload_n (pc := 508) d_MO_init_508 rfl 0 rfl ?_
  refine g_getR (pc := 509) (ci := 7) (f := 0) (b := st) rfl r_m_0 d_MO_init_509 fl_MO_7 (by decide) k_m ?_
  refine g_iconst (pc := 512) (v := 2) d_MO_init_512 (by decide) ?_
  refine g_iconst (pc := 513) (v := 4) d_MO_init_513 (by decide) ?_
  refine g_lis1 (pc := 514) (j := 2) d_MO_init_514 k_st l_st (by decide) (by decide) nd ?_
  refine g_aload_n (pc := 515) d_MO_init_515 rfl 0 rfl ?_
  refine g_getR (pc := 516) (ci := 7) (f := 0) (b := st) rfl r_m_0 d_MO_init_516 fl_MO_7 (by decide) k_m ?_
  refine g_iconst (pc := 519) (v := 3) d_MO_init_519 (by decide) ?_
  refine g_bipush (pc := 520) (v := 10) d_MO_init_520 (by decide) ?_
  refine g_lis1 (pc := 522) (j := 3) d_MO_init_522 k_st l_st (by decide) (by decide) nd ?_
  refine g_aload_n (pc := 523) d_MO_init_523 rfl 0 rfl ?_
  refine g_getR (pc := 524) (ci := 7) (f := 0) (b := st) rfl r_m_0 d_MO_init_524 fl_MO_7 (by decide) k_m ?_
  refine g_iconst (pc := 527) (v := 4) d_MO_init_527 (by decide) ?_
  refine g_bipush (pc := 528) (v := 20) d_MO_init_528 (by decide) ?_
  refine g_lis1 (pc := 530) (j := 4) d_MO_init_530 k_st l_st (by decide) (by decide) nd ?_
  refine g_aload_n (pc := 531) d_MO_init_531 rfl 0 rfl ?_
  refine g_getR (pc := 532) (ci := 7) (f := 0) (b := st) rfl r_m_0 d_MO_init_532 fl_MO_7 (by decide) k_m ?_
  refine g_iconst (pc := 535) (v := 5) d_MO_init_535 (by decide) ?_
  refine g_iconst (pc := 536) (v := 1) d_MO_init_536 (by decide) ?_
  refine g_lis1 (pc := 537) (j := 5) d_MO_init_537 k_st l_st (by decide) (by decide) nd ?_
  refine g_aload_n (pc := 538) d_MO_init_538 rfl 0 rfl ?_
  refine g_getR (pc := 539) (ci := 7) (f := 0) (b := st) rfl r_m_0 d_MO_init_539 fl_MO_7 (by decide) k_m ?_
  refine g_bipush (pc := 542) (v := 6) d_MO_init_542 (by decide) ?_
  refine g_bipush (pc := 544) (v := 7) d_MO_init_544 (by decide) ?_
  refine g_lis1 (pc := 546) (j := 6) d_MO_init_546 k_st l_st (by decide) (by decide) nd ?_
  refine g_aload_n (pc := 547) d_MO_init_547 rfl 0 rfl ?_
  refine g_bipush (pc := 548) (v := 100) d_MO_init_548 (by decide) ?_
  refine g_h (h' := wL H8 ((m, cM_0) :: (st, enc 0 0 (Rd G_1) G_1) :: (mi, Z_0) :: (nu, Z_0) :: (co, Z_0) :: (wd, wdR) :: [])) (by rw [enc_Rd] <;> rfl) ?_
  refine g_cV0 (pc := 550) (ci := 7) (As := [.int _]) d_MO_init_550 rfl mv_MO_addWeight st_MO_init_38 rfl rfl (by decide) rfl rfl (Nat.le_of_ble_eq_true rfl) k_m (cm_MO_addWeight (nw := 0) (sc := 0) (B := Rd G_1) (g := G_1) (R := (mi, Z_0) :: (nu, Z_0) :: (co, Z_0) :: (wd, wdR) :: []) hMo nd (by decide) (by decide) G_w7.1 (by decide)) ?_
  refine g_h (h' := wL H8 ((m, cM_0) :: (st, G_2) :: (mi, Z_0) :: (nu, Z_0) :: (co, Z_0) :: (wd, wdR) :: [])) rfl ?_
  refine g_aload_n (pc := 553) d_MO_init_553 rfl 0 rfl ?_
  refine g_sipush (pc := 554) (v := 500) d_MO_init_554 (by decide) ?_
  refine g_h (h' := wL H8 ((m, cM_0) :: (st, enc 1 0 (Rd G_2) G_2) :: (mi, Z_0) :: (nu, Z_0) :: (co, Z_0) :: (wd, wdR) :: [])) (by rw [enc_Rd] <;> rfl) ?_
  refine g_cV0 (pc := 557) (ci := 7) (As := [.int _]) d_MO_init_557 rfl mv_MO_addWeight st_MO_init_38 rfl rfl (by decide) rfl rfl (Nat.le_of_ble_eq_true rfl) k_m (cm_MO_addWeight (nw := 1) (sc := 0) (B := Rd G_2) (g := G_2) (R := (mi, Z_0) :: (nu, Z_0) :: (co, Z_0) :: (wd, wdR) :: []) hMo nd (by decide) (by decide) G_w7.2.1 (by decide)) ?_
  refine g_h (h' := wL H8 ((m, cM_0) :: (st, G_3) :: (mi, Z_0) :: (nu, Z_0) :: (co, Z_0) :: (wd, wdR) :: [])) rfl ?_
  refine g_aload_n (pc := 560) d_MO_init_560 rfl 0 rfl ?_
  refine g_sipush (pc := 561) (v := 2000) d_MO_init_561 (by decide) ?_
  refine g_h (h' := wL H8 ((m, cM_0) :: (st, enc 2 0 (Rd G_3) G_3) :: (mi, Z_0) :: (nu, Z_0) :: (co, Z_0) :: (wd, wdR) :: [])) (by rw [enc_Rd] <;> rfl) ?_
  refine g_cV0 (pc := 564) (ci := 7) (As := [.int _]) d_MO_init_564 rfl mv_MO_addWeight st_MO_init_38 rfl rfl (by decide) rfl rfl (Nat.le_of_ble_eq_true rfl) k_m (cm_MO_addWeight (nw := 2) (sc := 0) (B := Rd G_3) (g := G_3) (R := (mi, Z_0) :: (nu, Z_0) :: (co, Z_0) :: (wd, wdR) :: []) hMo nd (by decide) (by decide) G_w7.2.2 (by decide)) ?_
  refine g_h (h' := wL H8 ((m, cM_0) :: (st, G_4) :: (mi, Z_0) :: (nu, Z_0) :: (co, Z_0) :: (wd, wdR) :: [])) rfl ?_
  refine g_aload_n (pc := 567) d_MO_init_567 rfl 0 rfl ?_
  refine g_bipush (pc := 568) (v := 100) d_MO_init_568 (by decide) ?_
  refine g_iconst (pc := 570) (v := 0) d_MO_init_570 (by decide) ?_
  refine g_iconst (pc := 571) (v := 0) d_MO_init_571 (by decide) ?_
  refine g_iconst (pc := 572) (v := 2) d_MO_init_572 (by decide) ?_
  refine g_cV0 (pc := 573) (ci := 7) (As := [.int _, .int _, .int _, .int _]) d_MO_init_573 rfl mv_MO_nameScale st_MO_init_42 rfl rfl (by decide) rfl rfl (Nat.le_of_ble_eq_true rfl) k_m (cn_MO_nameScale (N := Z_0) (R := (co, Z_0) :: (wd, wdR) :: []) hM nd) ?_
  refine g_aload_n (pc := 576) d_MO_init_576 rfl 0 rfl ?_
  refine g_sipush (pc := 577) (v := 250) d_MO_init_577 (by decide) ?_
  refine g_bipush (pc := 580) (v := 10) d_MO_init_580 (by decide) ?_
  refine g_bipush (pc := 582) (v := 20) d_MO_init_582 (by decide) ?_
  refine g_iconst (pc := 584) (v := 3) d_MO_init_584 (by decide) ?_
  refine g_cV0 (pc := 585) (ci := 7) (As := [.int _, .int _, .int _, .int _]) d_MO_init_585 rfl mv_MO_nameSales st_MO_init_46 rfl rfl (by decide) rfl rfl (Nat.le_of_ble_eq_true rfl) k_m (cn_MO_nameSales (N := _) (R := (co, Z_0) :: (wd, wdR) :: []) hM nd) ?_
  refine g_aload_n (pc := 588) d_MO_init_588 rfl 0 rfl ?_
  refine g_h (h' := wL H8 ((m, cM_0) :: (st, enc 3 0 (Rd G_4) G_4) :: (mi, Z_0) :: (nu, N_1) :: (co, Z_0) :: (wd, wdR) :: [])) (by rw [enc_Rd] <;> rfl) ?_
  refine g_cV0 (pc := 589) (ci := 7) (As := []) d_MO_init_589 rfl mv_MO_addShop st_MO_init_49 rfl rfl (by decide) rfl rfl (Nat.le_of_ble_eq_true rfl) k_m (cm_MO_addShop (nw := 3) (sc := 0) (B := Rd G_4) (g := G_4) (R := []) hM nd G_s8.1 (by decide)) ?_
  refine g_h (h' := wL H8 ((m, cM_0) :: (st, G_5) :: (mi, Z_0) :: (nu, N_1) :: (co, Z_0) :: (wd, wdR) :: [])) rfl ?_
  refine g_aload_n (pc := 592) d_MO_init_592 rfl 0 rfl ?_
  refine g_bipush (pc := 593) (v := 50) d_MO_init_593 (by decide) ?_
  refine g_bipush (pc := 595) (v := 30) d_MO_init_595 (by decide) ?_
  refine g_iconst (pc := 597) (v := 0) d_MO_init_597 (by decide) ?_
  refine g_iconst (pc := 598) (v := 0) d_MO_init_598 (by decide) ?_
  refine g_cV0 (pc := 599) (ci := 7) (As := [.int _, .int _, .int _, .int _]) d_MO_init_599 rfl mv_MO_nameScale st_MO_init_42 rfl rfl (by decide) rfl rfl (Nat.le_of_ble_eq_true rfl) k_m (cn_MO_nameScale (N := N_1) (R := (co, Z_0) :: (wd, wdR) :: []) hM nd) ?_
  refine g_aload_n (pc := 602) d_MO_init_602 rfl 0 rfl ?_
  refine g_sipush (pc := 603) (v := 1000) d_MO_init_603 (by decide) ?_
  refine g_iconst (pc := 606) (v := 4) d_MO_init_606 (by decide) ?_
  refine g_iconst (pc := 607) (v := 0) d_MO_init_607 (by decide) ?_
  refine g_iconst (pc := 608) (v := 0) d_MO_init_608 (by decide) ?_
  refine g_cV0 (pc := 609) (ci := 7) (As := [.int _, .int _, .int _, .int _]) d_MO_init_609 rfl mv_MO_nameSales st_MO_init_46 rfl rfl (by decide) rfl rfl (Nat.le_of_ble_eq_true rfl) k_m (cn_MO_nameSales (N := _) (R := (co, Z_0) :: (wd, wdR) :: []) hM nd) ?_
  refine g_aload_n (pc := 612) d_MO_init_612 rfl 0 rfl ?_
  refine g_h (h' := wL H8 ((m, cM_0) :: (st, enc 3 1 (Rd G_5) G_5) :: (mi, Z_0) :: (nu, N_2) :: (co, Z_0) :: (wd, wdR) :: [])) (by rw [enc_Rd] <;> rfl) ?_
  refine g_cV0 (pc := 613) (ci := 7) (As := []) d_MO_init_613 rfl mv_MO_addShop st_MO_init_49 rfl rfl (by decide) rfl rfl (Nat.le_of_ble_eq_true rfl) k_m (cm_MO_addShop (nw := 3) (sc := 1) (B := Rd G_5) (g := G_5) (R := []) hM nd G_s8.2.1 (by decide)) ?_
  refine g_h (h' := wL H8 ((m, cM_0) :: (st, G_6) :: (mi, Z_0) :: (nu, N_2) :: (co, Z_0) :: (wd, wdR) :: [])) rfl ?_
  refine g_aload_n (pc := 616) d_MO_init_616 rfl 0 rfl ?_
  refine g_sipush (pc := 617) (v := 200) d_MO_init_617 (by decide) ?_
  refine g_bipush (pc := 620) (v := (-20)) d_MO_init_620 (by decide) ?_
  refine g_bipush (pc := 622) (v := 10) d_MO_init_622 (by decide) ?_
  refine g_iconst (pc := 624) (v := (-1)) d_MO_init_624 (by decide) ?_
  refine g_cV0 (pc := 625) (ci := 7) (As := [.int _, .int _, .int _, .int _]) d_MO_init_625 rfl mv_MO_nameScale st_MO_init_42 rfl rfl (by decide) rfl rfl (Nat.le_of_ble_eq_true rfl) k_m (cn_MO_nameScale (N := N_2) (R := (co, Z_0) :: (wd, wdR) :: []) hM nd) ?_
  refine g_aload_n (pc := 628) d_MO_init_628 rfl 0 rfl ?_
  refine g_bipush (pc := 629) (v := 100) d_MO_init_629 (by decide) ?_
  refine g_bipush (pc := 631) (v := 30) d_MO_init_631 (by decide) ?_
  refine g_iconst (pc := 633) (v := 0) d_MO_init_633 (by decide) ?_
  refine g_iconst (pc := 634) (v := 5) d_MO_init_634 (by decide) ?_
  refine g_cV0 (pc := 635) (ci := 7) (As := [.int _, .int _, .int _, .int _]) d_MO_init_635 rfl mv_MO_nameSales st_MO_init_46 rfl rfl (by decide) rfl rfl (Nat.le_of_ble_eq_true rfl) k_m (cn_MO_nameSales (N := _) (R := (co, Z_0) :: (wd, wdR) :: []) hM nd) ?_
  refine g_aload_n (pc := 638) d_MO_init_638 rfl 0 rfl ?_
  refine g_h (h' := wL H8 ((m, cM_0) :: (st, enc 3 2 (Rd G_6) G_6) :: (mi, Z_0) :: (nu, N_3) :: (co, Z_0) :: (wd, wdR) :: [])) (by rw [enc_Rd] <;> rfl) ?_
  refine g_cV0 (pc := 639) (ci := 7) (As := []) d_MO_init_639 rfl mv_MO_addShop st_MO_init_49 rfl rfl (by decide) rfl rfl (Nat.le_of_ble_eq_true rfl) k_m (cm_MO_addShop (nw := 3) (sc := 2) (B := Rd G_6) (g := G_6) (R := []) hM nd G_s8.2.2 (by decide)) ?_
  refine g_h (h' := wL H8 ((m, cM_0) :: (st, G_7) :: (mi, Z_0) :: (nu, N_3) :: (co, Z_0) :: (wd, wdR) :: [])) rfl ?_
  refine g_vret (pc := 642) d_MO_init_642 rfl ?_
  refine ⟨rfl, st, sv, mi, nu, co, mo, wd, fun q hq => ?_, hM, hU, hV, ⟨?_, ?_, ?_, ?_⟩, fr⟩
  · obtain ⟨y1, y2⟩ := E8 q hq
    refine ⟨l8 q _ (fun z => hq (z ▸ hm)) (fun z => hq (z ▸ fr_st)) (fun z => hq (z ▸ fr_nu)) y1, y2⟩
  · exact if_pos rfl
  · show wLf _ _ st = G_7
    simp only [wLf, if_neg n_st, if_true]
  · exact l8 sv _ n_sv d_sv_st (Ne.symm d_nu_sv) zr_sv
  · exact l8 wd _ n_wd d_wd_st d_wd_nu iwd
