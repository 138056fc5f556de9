/-! THE JDK'S OWN METHODS: String constants, statics -/
theorem strOk {E : En} {M : Mt} {p : Program} {R : Room} {s : State} {m : MethodId} {args : Array Value} {meth : Method} {c : Code} {H : Heap} {locs : List Loc} (C : Cx E M p R s m args meth c H locs) : vk_S 8 strL strB (eS E) (eV E) (gA E) s s.heap := C.cst.2.2.2.2.1
section
variable {E : En} {M : Mt} {pc : Nat} {lv : List (Nat × Value)} {st : List Value} {h : Hp} {k n : Nat} {P : Option Value → Hp → Prop} {X : String → Hp → Prop} {idx i : Nat}
theorem g_gets {C9 n9 d9 : String} {q : Option Nat × Int32} (hd : decode (mC M) pc = .ok (.getstatic idx, 3)) (w : Nat) (hw : zT[w]? = some (C9, n9, d9, q)) (hl : Cond.fieldLink (mY M).cls idx C9 n9 d9 ∈ tG) (kk : G E M (pc + 3) lv (zV E q :: st) h k n P X) : G E M pc lv st h k n P X := by
  intro p e R s m args below meth c H locs cells slots ls C r h1 h2 hls
  exact va_gets C.1 C.2.1 (C.cst.2.2.2.2.2.1 _ (List.mem_of_getElem? hw)) C.hS C.2.2.2.1 (C.hts _ hl) (fun _ z => z) hd (kk p e R s m args below meth c H locs cells slots ls C r h1 h2 hls)
theorem g_getsN {C9 n9 d9 host : String} {q : Option Nat × Int32} (hd : decode (mC M) pc = .ok (.getstatic idx, 3)) (w : Nat) (hw : zT[w]? = some (C9, n9, d9, q)) (hl : Cond.fieldLinkNest (mY M).cls idx C9 n9 d9 host ∈ tN) (kk : G E M (pc + 3) lv (zV E q :: st) h k n P X) : G E M pc lv st h k n P X := by
  intro p e R s m args below meth c H locs cells slots ls C r h1 h2 hls
  exact va_getsN C.1 C.2.1 (C.cst.2.2.2.2.2.1 _ (List.mem_of_getElem? hw)) C.hS C.2.2.2.1 (C.cst.1 _ hl) (fun _ z => z) hd (kk p e R s m args below meth c H locs cells slots ls C r h1 h2 hls)
theorem g_getsQ (hd : decode (mC M) pc = .ok (.getstatic idx, 3)) (hl : Cond.fieldLink (mY M).cls idx "jdk/internal/util/Preconditions" "SIOOBE_FORMATTER" "Ljava/util/function/BiFunction;" ∈ tG) (kk : ∀ v : Value, v = .null ∨ (∃ t : Nat, v = .ref t) → G E M (pc + 3) lv (v :: st) h k n P X) : G E M pc lv st h k n P X := by
  intro p e R s m args below meth c H locs cells slots ls C r h1 h2 hls
  rcases C.cst.2.2.2.2.2.2.2.2.2.1 with z | ⟨t, z⟩
  · exact va_gets C.1 C.2.1 z C.hS C.2.2.2.1 (C.hts _ hl) (fun _ z => z) hd (kk _ (Or.inl rfl) p e R s m args below meth c H locs cells slots ls C r h1 h2 hls)
  · exact va_gets C.1 C.2.1 z C.hS C.2.2.2.1 (C.hts _ hl) (fun _ z => z) hd (kk _ (Or.inr ⟨t, rfl⟩) p e R s m args below meth c H locs cells slots ls C r h1 h2 hls)
theorem g_strV (hi : i < 8) (hd : decode (mC M) pc = .ok (.getfield idx, 3)) (hl : Cond.fieldLink (mY M).cls idx "java/lang/String" "value" "[B" ∈ tG) (kk : G E M (pc + 3) lv (.ref (eV E i) :: st) h k n P X) : G E M pc lv (.ref (eS E i) :: st) h k n P X := by
  intro p e R s m args below meth c H locs cells slots ls C r h1 h2 hls
  exact vk_getf C.1 C.2.1 ((strOk C).1 i hi).2.2.1 C.hS C.2.2.2.1 (C.hts _ hl) (fun _ z => z) hd (kk p e R s m args below meth c H locs cells slots ls C r h1 h2 hls)
theorem g_strC (hi : i < 8) (hd : decode (mC M) pc = .ok (.getfield idx, 3)) (hl : Cond.fieldLink (mY M).cls idx "java/lang/String" "coder" "B" ∈ tG) (kk : G E M (pc + 3) lv (.int 0 :: st) h k n P X) : G E M pc lv (.ref (eS E i) :: st) h k n P X := by
  intro p e R s m args below meth c H locs cells slots ls C r h1 h2 hls
  exact vk_getf C.1 C.2.1 ((strOk C).1 i hi).2.1 C.hS C.2.2.2.1 (C.hts _ hl) (fun _ z => z) hd (kk p e R s m args below meth c H locs cells slots ls C r h1 h2 hls)
theorem g_strLen (hi : i < 8) (hd : decode (mC M) pc = .ok (.arraylength, 1)) (kk : G E M (pc + 1) lv (.int (nI (strL.getD i 0)) :: st) h k n P X) : G E M pc lv (.ref (eV E i) :: st) h k n P X := by
  intro p e R s m args below meth c H locs cells slots ls C r h1 h2 hls
  exact va_tlen C.1 C.2.1 ((strOk C).1 i hi).2.2.2 C.hS rfl hd (kk p e R s m args below meth c H locs cells slots ls C r h1 h2 hls)
theorem strL_lt : ∀ i, i < 8 → strL.getD i 0 < 200 := by decide
theorem g_strBa {j : Nat} (hi : i < 8) (hj : j < strL.getD i 0) (hd : decode (mC M) pc = .ok (.baload, 1)) (kk : G E M (pc + 1) lv (.int ((strB.getD i []).getD j 0) :: st) h k n P X) : G E M pc lv (.int (nI j) :: .ref (eV E i) :: st) h k n P X := by
  intro p e R s m args below meth c H locs cells slots ls C r h1 h2 hls
  have := strL_lt i hi
  exact va_tb C.1 C.2.1 ((strOk C).1 i hi).2.2.2 C.hS (vp_in_nI hj (by omega)) (by rw [nI_clamp (by omega)]) hd (kk p e R s m args below meth c H locs cells slots ls C r h1 h2 hls)
theorem g_i2c {x : Int32} (hd : decode (mC M) pc = .ok (.i2c, 1)) (kk : G E M (pc + 1) lv (.int (x.toUInt32 % 65536).toInt32 :: st) h k n P X) : G E M pc lv (.int x :: st) h k n P X := by
  intro p e R s m args below meth c H locs cells slots ls C r h1 h2 hl
  exact lv_i2c C.1 C.2.1 hd rfl (kk p e R s m args below meth c H locs cells slots ls C r h1 h2 hl)
theorem g_alenB {a len : Nat} (hk : hK h a = 21) (hl : hL h a = len) (hd : decode (mC M) pc = .ok (.arraylength, 1)) (kk : G E M (pc + 1) lv (.int (nI len) :: st) h k n P X) : G E M pc lv (.ref a :: st) h k n P X := by
  intro p e R s m args below meth c H locs cells slots ls C r h1 h2 hls
  obtain ⟨cA, c1, c2, c3⟩ := r.arr hk (by omega)
  have c3 : H[a]? = some (arrV cA (hL h a) (fun j => .int (hI h a j))) := c3
  exact W.alen (n := nI len) C.1 C.2.1 c3 (c1 (hL h a) (fun j => .int (hI h a j))) (by rw [arrV_size, hl]; rfl) rfl rfl hd (kk p e R s m args below meth c H locs cells slots ls C r h1 h2 hls)
theorem g_alenI {a len : Nat} (hk : hK h a = 20) (hl : hL h a = len) (hd : decode (mC M) pc = .ok (.arraylength, 1)) (kk : G E M (pc + 1) lv (.int (nI len) :: st) h k n P X) : G E M pc lv (.ref a :: st) h k n P X := by
  intro p e R s m args below meth c H locs cells slots ls C r h1 h2 hls
  obtain ⟨cA, c1, c2, c3⟩ := r.arr hk (by omega)
  have c3 : H[a]? = some (arrV cA (hL h a) (fun j => .int (hI h a j))) := c3
  exact W.alen (n := nI len) C.1 C.2.1 c3 (c1 (hL h a) (fun j => .int (hI h a j))) (by rw [arrV_size, hl]; rfl) rfl rfl hd (kk p e R s m args below meth c H locs cells slots ls C r h1 h2 hls)
/-- the tables of ints that nobody writes: their places 0 and 1 of rowT -/
theorem g_tabI {w j : Nat} {l : List Int32} (hw : rowT[w]? = some (.int, i, l)) (hj : j < l.length) (hlen : l.length < 2 ^ 31) (hd : decode (mC M) pc = .ok (.iaload, 1)) (kk : G E M (pc + 1) lv (.int (l.getD j 0) :: st) h k n P X) : G E M pc lv (.int (nI j) :: .ref (eS E i) :: st) h k n P X := by
  intro p e R s m args below meth c H locs cells slots ls C r h1 h2 hls
  exact va_ti C.1 C.2.1 (C.cst.2.2.2.2.2.2.1 _ (List.mem_of_getElem? hw)) C.hS (vp_in_nI hj hlen) (by rw [nI_clamp (by omega)]) hd (kk p e R s m args below meth c H locs cells slots ls C r h1 h2 hls)
theorem g_tabL {w : Nat} {l : List Int32} {ty : FieldType} (hw : rowT[w]? = some (ty, i, l)) (hd : decode (mC M) pc = .ok (.arraylength, 1)) (kk : G E M (pc + 1) lv (.int (nI l.length) :: st) h k n P X) : G E M pc lv (.ref (eS E i) :: st) h k n P X := by
  intro p e R s m args below meth c H locs cells slots ls C r h1 h2 hls
  exact va_tlen C.1 C.2.1 (C.cst.2.2.2.2.2.2.1 _ (List.mem_of_getElem? hw)) C.hS rfl hd (kk p e R s m args below meth c H locs cells slots ls C r h1 h2 hls)
theorem g_tabB {w j : Nat} {l : List Int32} (hw : rowT[w]? = some (.byte, i, l)) (hj : j < l.length) (hlen : l.length < 2 ^ 31) (hd : decode (mC M) pc = .ok (.baload, 1)) (kk : G E M (pc + 1) lv (.int (l.getD j 0) :: st) h k n P X) : G E M pc lv (.int (nI j) :: .ref (eS E i) :: st) h k n P X := by
  intro p e R s m args below meth c H locs cells slots ls C r h1 h2 hls
  exact va_tb C.1 C.2.1 (C.cst.2.2.2.2.2.2.1 _ (List.mem_of_getElem? hw)) C.hS (vp_in_nI hj hlen) (by rw [nI_clamp (by omega)]) hd (kk p e R s m args below meth c H locs cells slots ls C r h1 h2 hls)
end
theorem g_nret {E : En} {M : Mt} {pc : Nat} {lv : List (Nat × Value)} {h : Hp} {k n : Nat} {P : Option Value → Hp → Prop} {X : String → Hp → Prop} {x : Int32} {ty : FieldType} (hd : decode (mC M) pc = .ok (.ireturn, 1)) (hr : mRt M = some ty) (hx : narrow ty (.int x) = .int x) (hp : P (some (.int x)) h) : G E M pc lv [.int x] h k n P X := by
  intro p e R s m args below meth c H locs cells slots ls C r h1 h2 hl
  exact g_end (E := E) (M := M) h1 h2 (W.zret C.1 C.2.1 (by rw [C.2.2.2.2.2.1]; exact hr) hx (g_q C r hp) (fun q hq => C.hS.2.2 q hq) hd C.2.2.2.2.2.2.1)
theorem g_callStr {E : En} {M Z : Mt} {pc : Nat} {lv : List (Nat × Value)} {st st0 As : List Value} {h h9 : Hp} {k n : Nat} {P : Option Value → Hp → Prop} {X : String → Hp → Prop} {idx na i : Nat} {x : Value} (hi : i < 8) (hd : decode (mC M) pc = .ok (.invokevirtual idx, 3)) (hh : mHh M = []) (hz : MV Z na) (hy : (mY Z).cls = "java/lang/String") (hs : ST M idx Z) (hst : st0 = As.reverse ++ .ref (eS E i) :: st) (hna : As.length = na) (hcat : (st.map fun v => v.category).sum ≤ 8)
    (hct : CR E Z (.ref (eS E i) :: As) h (some x) h9) (kk : G E M (pc + 3) lv (x :: st) h9 k n P X) : G E M pc lv st0 h k n P X := by
  intro p e R s m args below meth c H locs cells slots ls C r h1 h2 hl
  obtain ⟨z1, z2, z3, z4, z5, z6⟩ := hz
  obtain ⟨s1, s2, s3⟩ := hs
  have hfr := C.2.2.2.2.2.2.2.2.2.2.2.2.1
  have hlo := C.2.2.2.2.2.2.2.2.2.2.2.2.2.1
  refine g_run (kz := 0) (nz := 0) C hh h1 h2 hl (vx_runV (Ts := tG) (cc := mC M) (nL := mN M) (own := (mY M).cls) (C := (mY Z).cls) (As := As) (b := eS E i) (n := na) (index := idx) ⟨C.1, C.2.1, C.2.2.1, C.2.2.2.1, C.hts⟩ hct
    (cwV na C.hts (fun w hw => ?_) (mW_code z1) rfl rfl ⟨rfl, z6⟩ ⟨by show mFr Z + 1 ≤ R.frames; omega, by show 8 + (mN Z + 11) + mLo Z ≤ R.locals; omega⟩)
    ⟨Inv.blind, by rw [hy]; exact vk_recv (strOk C) hi C.hS, fun U hU hW => ⟨rfl, inv_at C r U hU hW⟩⟩ rfl hna hl.1 hst (lv_room hcat) hd ⟨by omega, by omega⟩) (fun _ _ z => z.elim) (fun v h1 hv => by obtain ⟨rfl, rfl⟩ := hv; exact kk)
  simp only [wsV, List.cons_append, List.nil_append, List.mem_cons] at hw
  rcases hw with rfl | rfl | rfl | rfl | hw
  · exact ⟨s1, tG_good _ s1⟩
  · exact ⟨z2, tG_good _ z2⟩
  · exact ⟨z3, tG_good _ z3⟩
  · exact ⟨z4, tG_good _ z4⟩
  · exact mW_good z1 z5 w hw
theorem g_cS0 {E : En} {M Z : Mt} {pc : Nat} {lv : List (Nat × Value)} {st st0 As : List Value} {h h9 : Hp} {k n : Nat} {P : Option Value → Hp → Prop} {X : String → Hp → Prop} {idx na : Nat} (hd : decode (mC M) pc = .ok (.invokestatic idx, 3)) (hh : mHh M = []) (hz : MS Z na) (hs : ST M idx Z) (hst : st0 = As.reverse ++ st) (hna : As.length = na) (hcat : (st.map fun v => v.category).sum ≤ 8)
    (hct : CR E Z As h none h9) (kk : G E M (pc + 3) lv st h9 k n P X) : G E M pc lv st0 h k n P X :=
  g_callS (kz := 0) (nz := 0) hd hh hz hs hst hna hcat hct (fun _ _ z => z.elim) (fun v h1 hv => by obtain ⟨rfl, rfl⟩ := hv; exact kk)
theorem strB_ch : ∀ i, i < 8 → ∀ j, j < strL.getD i 0 → (((strB.getD i []).getD j 0 &&& 255).toUInt32 % 65536).toInt32 = (strB.getD i []).getD j 0 := by decide +kernel
theorem strB_b : ∀ i, i < 8 → ∀ j, j < strL.getD i 0 → ((strB.getD i []).getD j 0).toInt8.toInt32 = (strB.getD i []).getD j 0 := by decide +kernel
theorem strB_n : ∀ i, i < 8 → ∀ j, j < strL.getD i 0 → narrow .char (.int ((strB.getD i []).getD j 0)) = .int ((strB.getD i []).getD j 0) := by
  intro i hi j hj
  rw [← strB_ch i hi j hj]
  exact pk_nc _

def m_ST_length : Mt := (⟨"java/lang/String", "length", "()I"⟩, prog_22_method_54_code, 1, (Option.some Jvm.ClassFile.FieldType.int), [], 3, 65)
def m_ST_coder : Mt := (⟨"java/lang/String", "coder", "()B"⟩, prog_22_method_152_code, 1, (Option.some Jvm.ClassFile.FieldType.byte), [], 2, 45)
def m_ST_charAt : Mt := (⟨"java/lang/String", "charAt", "(I)C"⟩, prog_22_method_56_code, 2, (Option.some Jvm.ClassFile.FieldType.char), [], 5, 109)
def m_ST_isLatin1 : Mt := (⟨"java/lang/String", "isLatin1", "()Z"⟩, prog_22_method_154_code, 1, (Option.some Jvm.ClassFile.FieldType.boolean), [], 2, 45)
def m_SL_charAt : Mt := (⟨"java/lang/StringLatin1", "charAt", "([BI)C"⟩, prog_24_method_2_code, 2, (Option.some Jvm.ClassFile.FieldType.char), [], 4, 88)
def m_ST_checkIndex : Mt := (⟨"java/lang/String", "checkIndex", "(II)V"⟩, prog_22_method_155_code, 2, (Option.none : Option Jvm.ClassFile.FieldType), [], 3, 67)
def m_PC_checkIndex : Mt := (⟨"jdk/internal/util/Preconditions", "checkIndex", "(IILjava/util/function/BiFunction;)I"⟩, prog_30_method_11_code, 3, (Option.some Jvm.ClassFile.FieldType.int), [], 2, 45)
theorem mv_ST_length : MV m_ST_length 0 := ⟨rfl, tg_2 71 rfl rfl, tg_2 72 rfl rfl, tg_1 10 rfl rfl, tg_2 73 rfl rfl, ⟨by decide, by decide, by decide +kernel⟩⟩
theorem mv_ST_coder : MV m_ST_coder 0 := ⟨rfl, tg_2 75 rfl rfl, tg_2 76 rfl rfl, tg_1 10 rfl rfl, tg_2 77 rfl rfl, ⟨by decide, by decide, by decide +kernel⟩⟩
theorem mv_ST_charAt : MV m_ST_charAt 1 := ⟨rfl, tg_2 80 rfl rfl, tg_2 81 rfl rfl, tg_1 10 rfl rfl, tg_2 82 rfl rfl, ⟨by decide, by decide, by decide +kernel⟩⟩
theorem mv_ST_isLatin1 : MV m_ST_isLatin1 0 := ⟨rfl, tg_2 84 rfl rfl, tg_2 85 rfl rfl, tg_1 10 rfl rfl, tg_2 86 rfl rfl, ⟨by decide, by decide, by decide +kernel⟩⟩
theorem ms_SL_charAt : MS m_SL_charAt 2 := ⟨rfl, tg_2 88 rfl rfl, tg_1 12 rfl rfl, tg_2 89 rfl rfl, ⟨by decide, by decide, by decide +kernel⟩⟩
theorem ms_ST_checkIndex : MS m_ST_checkIndex 2 := ⟨rfl, tg_2 91 rfl rfl, tg_1 10 rfl rfl, tg_2 92 rfl rfl, ⟨by decide, by decide, by decide +kernel⟩⟩
theorem ms_PC_checkIndex : MS m_PC_checkIndex 3 := ⟨rfl, tg_2 96 rfl rfl, tg_1 13 rfl rfl, tg_2 97 rfl rfl, ⟨by decide, by decide, by decide +kernel⟩⟩
theorem st_ST_length_335 : ST m_ST_length 335 m_ST_coder := ⟨tg_2 74 rfl rfl, by decide, by decide⟩
theorem st_ST_charAt_492 : ST m_ST_charAt 492 m_ST_isLatin1 := ⟨tg_2 83 rfl rfl, by decide, by decide⟩
theorem st_ST_charAt_495 : ST m_ST_charAt 495 m_SL_charAt := ⟨tg_2 87 rfl rfl, by decide, by decide⟩
theorem st_SL_charAt_9 : ST m_SL_charAt 9 m_ST_checkIndex := ⟨tg_2 90 rfl rfl, by decide, by decide⟩
theorem st_ST_checkIndex_1059 : ST m_ST_checkIndex 1059 m_PC_checkIndex := ⟨tg_2 95 rfl rfl, by decide, by decide⟩
theorem st_IN_putText_23 : ST m_IN_putText 23 m_ST_length := ⟨tg_2 70 rfl rfl, by decide, by decide⟩
theorem st_IN_putText_28 : ST m_IN_putText 28 m_ST_charAt := ⟨tg_2 79 rfl rfl, by decide, by decide⟩
theorem st_IN_isWord_23 : ST m_IN_isWord 23 m_ST_length := ⟨tg_2 70 rfl rfl, by decide, by decide⟩
theorem st_IN_isWord_28 : ST m_IN_isWord 28 m_ST_charAt := ⟨tg_2 79 rfl rfl, by decide, by decide⟩
theorem d_ST_length_0 : decode (mC m_ST_length) 0 = .ok (.aload_n 0, 1) := by decide +kernel
theorem d_ST_length_1 : decode (mC m_ST_length) 1 = .ok (.getfield 9, 3) := by decide +kernel
theorem d_ST_length_4 : decode (mC m_ST_length) 4 = .ok (.arraylength, 1) := by decide +kernel
theorem d_ST_length_5 : decode (mC m_ST_length) 5 = .ok (.aload_n 0, 1) := by decide +kernel
theorem d_ST_length_6 : decode (mC m_ST_length) 6 = .ok (.invokevirtual 335, 3) := by decide +kernel
theorem d_ST_length_9 : decode (mC m_ST_length) 9 = .ok (.ishr, 1) := by decide +kernel
theorem d_ST_length_10 : decode (mC m_ST_length) 10 = .ok (.ireturn, 1) := by decide +kernel
theorem d_ST_coder_0 : decode (mC m_ST_coder) 0 = .ok (.getstatic 38, 3) := by decide +kernel
theorem d_ST_coder_3 : decode (mC m_ST_coder) 3 = .ok (.ifCond .eq 10, 3) := by decide +kernel
theorem d_ST_coder_6 : decode (mC m_ST_coder) 6 = .ok (.aload_n 0, 1) := by decide +kernel
theorem d_ST_coder_7 : decode (mC m_ST_coder) 7 = .ok (.getfield 15, 3) := by decide +kernel
theorem d_ST_coder_10 : decode (mC m_ST_coder) 10 = .ok (.goto 4, 3) := by decide +kernel
theorem d_ST_coder_13 : decode (mC m_ST_coder) 13 = .ok (.iconst 1, 1) := by decide +kernel
theorem d_ST_coder_14 : decode (mC m_ST_coder) 14 = .ok (.ireturn, 1) := by decide +kernel
theorem d_ST_charAt_0 : decode (mC m_ST_charAt) 0 = .ok (.aload_n 0, 1) := by decide +kernel
theorem d_ST_charAt_1 : decode (mC m_ST_charAt) 1 = .ok (.invokevirtual 492, 3) := by decide +kernel
theorem d_ST_charAt_4 : decode (mC m_ST_charAt) 4 = .ok (.ifCond .eq 12, 3) := by decide +kernel
theorem d_ST_charAt_7 : decode (mC m_ST_charAt) 7 = .ok (.aload_n 0, 1) := by decide +kernel
theorem d_ST_charAt_8 : decode (mC m_ST_charAt) 8 = .ok (.getfield 9, 3) := by decide +kernel
theorem d_ST_charAt_11 : decode (mC m_ST_charAt) 11 = .ok (.iload_n 1, 1) := by decide +kernel
theorem d_ST_charAt_12 : decode (mC m_ST_charAt) 12 = .ok (.invokestatic 495, 3) := by decide +kernel
theorem d_ST_charAt_15 : decode (mC m_ST_charAt) 15 = .ok (.ireturn, 1) := by decide +kernel
theorem d_ST_charAt_16 : decode (mC m_ST_charAt) 16 = .ok (.aload_n 0, 1) := by decide +kernel
theorem d_ST_charAt_17 : decode (mC m_ST_charAt) 17 = .ok (.getfield 9, 3) := by decide +kernel
theorem d_ST_charAt_20 : decode (mC m_ST_charAt) 20 = .ok (.iload_n 1, 1) := by decide +kernel
theorem d_ST_charAt_21 : decode (mC m_ST_charAt) 21 = .ok (.invokestatic 498, 3) := by decide +kernel
theorem d_ST_charAt_24 : decode (mC m_ST_charAt) 24 = .ok (.ireturn, 1) := by decide +kernel
theorem d_ST_isLatin1_0 : decode (mC m_ST_isLatin1) 0 = .ok (.getstatic 38, 3) := by decide +kernel
theorem d_ST_isLatin1_3 : decode (mC m_ST_isLatin1) 3 = .ok (.ifCond .eq 14, 3) := by decide +kernel
theorem d_ST_isLatin1_6 : decode (mC m_ST_isLatin1) 6 = .ok (.aload_n 0, 1) := by decide +kernel
theorem d_ST_isLatin1_7 : decode (mC m_ST_isLatin1) 7 = .ok (.getfield 15, 3) := by decide +kernel
theorem d_ST_isLatin1_10 : decode (mC m_ST_isLatin1) 10 = .ok (.ifCond .ne 7, 3) := by decide +kernel
theorem d_ST_isLatin1_13 : decode (mC m_ST_isLatin1) 13 = .ok (.iconst 1, 1) := by decide +kernel
theorem d_ST_isLatin1_14 : decode (mC m_ST_isLatin1) 14 = .ok (.goto 4, 3) := by decide +kernel
theorem d_ST_isLatin1_17 : decode (mC m_ST_isLatin1) 17 = .ok (.iconst 0, 1) := by decide +kernel
theorem d_ST_isLatin1_18 : decode (mC m_ST_isLatin1) 18 = .ok (.ireturn, 1) := by decide +kernel
theorem d_SL_charAt_0 : decode (mC m_SL_charAt) 0 = .ok (.iload_n 1, 1) := by decide +kernel
theorem d_SL_charAt_1 : decode (mC m_SL_charAt) 1 = .ok (.aload_n 0, 1) := by decide +kernel
theorem d_SL_charAt_2 : decode (mC m_SL_charAt) 2 = .ok (.arraylength, 1) := by decide +kernel
theorem d_SL_charAt_3 : decode (mC m_SL_charAt) 3 = .ok (.invokestatic 9, 3) := by decide +kernel
theorem d_SL_charAt_6 : decode (mC m_SL_charAt) 6 = .ok (.aload_n 0, 1) := by decide +kernel
theorem d_SL_charAt_7 : decode (mC m_SL_charAt) 7 = .ok (.iload_n 1, 1) := by decide +kernel
theorem d_SL_charAt_8 : decode (mC m_SL_charAt) 8 = .ok (.baload, 1) := by decide +kernel
theorem d_SL_charAt_9 : decode (mC m_SL_charAt) 9 = .ok (.sipush 255, 3) := by decide +kernel
theorem d_SL_charAt_12 : decode (mC m_SL_charAt) 12 = .ok (.iand, 1) := by decide +kernel
theorem d_SL_charAt_13 : decode (mC m_SL_charAt) 13 = .ok (.i2c, 1) := by decide +kernel
theorem d_SL_charAt_14 : decode (mC m_SL_charAt) 14 = .ok (.ireturn, 1) := by decide +kernel
theorem d_ST_checkIndex_0 : decode (mC m_ST_checkIndex) 0 = .ok (.iload_n 0, 1) := by decide +kernel
theorem d_ST_checkIndex_1 : decode (mC m_ST_checkIndex) 1 = .ok (.iload_n 1, 1) := by decide +kernel
theorem d_ST_checkIndex_2 : decode (mC m_ST_checkIndex) 2 = .ok (.getstatic 1053, 3) := by decide +kernel
theorem d_ST_checkIndex_5 : decode (mC m_ST_checkIndex) 5 = .ok (.invokestatic 1059, 3) := by decide +kernel
theorem d_ST_checkIndex_8 : decode (mC m_ST_checkIndex) 8 = .ok (.pop, 1) := by decide +kernel
theorem d_ST_checkIndex_9 : decode (mC m_ST_checkIndex) 9 = .ok (.return_, 1) := by decide +kernel
theorem d_PC_checkIndex_0 : decode (mC m_PC_checkIndex) 0 = .ok (.iload_n 0, 1) := by decide +kernel
theorem d_PC_checkIndex_1 : decode (mC m_PC_checkIndex) 1 = .ok (.ifCond .lt 8, 3) := by decide +kernel
theorem d_PC_checkIndex_4 : decode (mC m_PC_checkIndex) 4 = .ok (.iload_n 0, 1) := by decide +kernel
theorem d_PC_checkIndex_5 : decode (mC m_PC_checkIndex) 5 = .ok (.iload_n 1, 1) := by decide +kernel
theorem d_PC_checkIndex_6 : decode (mC m_PC_checkIndex) 6 = .ok (.if_icmp .lt 10, 3) := by decide +kernel
theorem d_PC_checkIndex_9 : decode (mC m_PC_checkIndex) 9 = .ok (.aload_n 2, 1) := by decide +kernel
theorem d_PC_checkIndex_10 : decode (mC m_PC_checkIndex) 10 = .ok (.iload_n 0, 1) := by decide +kernel
theorem d_PC_checkIndex_11 : decode (mC m_PC_checkIndex) 11 = .ok (.iload_n 1, 1) := by decide +kernel
theorem d_PC_checkIndex_12 : decode (mC m_PC_checkIndex) 12 = .ok (.invokestatic 95, 3) := by decide +kernel
theorem d_PC_checkIndex_15 : decode (mC m_PC_checkIndex) 15 = .ok (.athrow, 1) := by decide +kernel
theorem d_PC_checkIndex_16 : decode (mC m_PC_checkIndex) 16 = .ok (.iload_n 0, 1) := by decide +kernel
theorem d_PC_checkIndex_17 : decode (mC m_PC_checkIndex) 17 = .ok (.ireturn, 1) := by decide +kernel
set_option maxRecDepth 20000 in
theorem ct_ST_coder {E : En} {h : Hp} {i : Nat} (hi : i < 8) : CR E m_ST_coder [.ref (eS E i)] h (some (.int 0)) (h) := by
  refine ct_of rfl (by decide +kernel) (Nat.le_of_ble_eq_true rfl) ?_
  show G E m_ST_coder 0 [(0, .ref (eS E i))] [] h 0 0 _ noX
  refine g_gets (pc := 0) d_ST_coder_0 4 rfl (tg_2 78 rfl rfl) ?_
  show G E m_ST_coder 3 _ (.int 1 :: _) h 0 0 _ noX
  refine g_if_eq (pc := 3) (tgt := 13) d_ST_coder_3 (by decide) (fun c_3 => ?_) (fun c_3 => ?_)
  · exact absurd c_3 (by decide)
  · skip
    refine g_aload_n (pc := 6) d_ST_coder_6 rfl 0 rfl ?_
    refine g_strC (pc := 7) hi d_ST_coder_7 (tg_3 202 rfl rfl) ?_
    refine g_goto (pc := 10) (tgt := 14) d_ST_coder_10 (by decide) ?_
    refine g_nret (pc := 14) d_ST_coder_14 rfl (by rfl) ?_
    exact ⟨rfl, rfl⟩
set_option maxRecDepth 20000 in
theorem ct_ST_isLatin1 {E : En} {h : Hp} {i : Nat} (hi : i < 8) : CR E m_ST_isLatin1 [.ref (eS E i)] h (some (.int 1)) (h) := by
  refine ct_of rfl (by decide +kernel) (Nat.le_of_ble_eq_true rfl) ?_
  show G E m_ST_isLatin1 0 [(0, .ref (eS E i))] [] h 0 0 _ noX
  refine g_gets (pc := 0) d_ST_isLatin1_0 4 rfl (tg_2 78 rfl rfl) ?_
  show G E m_ST_isLatin1 3 _ (.int 1 :: _) h 0 0 _ noX
  refine g_if_eq (pc := 3) (tgt := 17) d_ST_isLatin1_3 (by decide) (fun c_3 => ?_) (fun c_3 => ?_)
  · exact absurd c_3 (by decide)
  · skip
    refine g_aload_n (pc := 6) d_ST_isLatin1_6 rfl 0 rfl ?_
    refine g_strC (pc := 7) hi d_ST_isLatin1_7 (tg_3 202 rfl rfl) ?_
    refine g_if_ne (pc := 10) (tgt := 17) d_ST_isLatin1_10 (by decide) (fun c_10 => ?_) (fun c_10 => ?_)
    · exact absurd rfl c_10
    · skip
      refine g_iconst (pc := 13) (v := 1) d_ST_isLatin1_13 (by decide) ?_
      refine g_goto (pc := 14) (tgt := 18) d_ST_isLatin1_14 (by decide) ?_
      refine g_zret (pc := 18) d_ST_isLatin1_18 rfl rfl ?_
      exact ⟨rfl, rfl⟩
theorem shr0 : ∀ i, i < 8 → nI (strL.getD i 0) >>> ((0 : Int32) &&& 31) = nI (strL.getD i 0) := by decide +kernel
set_option maxRecDepth 20000 in
theorem ct_ST_length {E : En} {h : Hp} {i : Nat} (hi : i < 8) : CR E m_ST_length [.ref (eS E i)] h (some (.int (nI (strL.getD i 0)))) (h) := by
  refine ct_of rfl (by decide +kernel) (Nat.le_of_ble_eq_true rfl) ?_
  show G E m_ST_length 0 [(0, .ref (eS E i))] [] h 0 0 _ noX
  refine g_aload_n (pc := 0) d_ST_length_0 rfl 0 rfl ?_
  refine g_strV (pc := 1) hi d_ST_length_1 (tg_3 201 rfl rfl) ?_
  refine g_strLen (pc := 4) hi d_ST_length_4 ?_
  refine g_aload_n (pc := 5) d_ST_length_5 rfl 0 rfl ?_
  refine g_callStr (pc := 6) (As := []) hi d_ST_length_6 rfl mv_ST_coder rfl st_ST_length_335 rfl rfl (Nat.le_of_ble_eq_true rfl) (ct_ST_coder hi) ?_
  refine g_ishr (pc := 9) d_ST_length_9 ?_
  refine g_iret (pc := 10) d_ST_length_10 rfl ?_
  exact ⟨congrArg (fun q => some (Value.int q)) (show nI (strL.getD i 0) >>> ((0 : Int32) &&& 31) = _ from shr0 i hi), rfl⟩
set_option maxRecDepth 20000 in
theorem ct_PC_checkIndex {E : En} {h : Hp} {a b : Nat} {v : Value} (hab : a < b) (hb : b < 2 ^ 31) (hv : v = .null ∨ ∃ t : Nat, v = .ref t) : CR E m_PC_checkIndex [.int (nI a), .int (nI b), v] h (some (.int (nI a))) h := by
  refine ct_of rfl (by decide +kernel) (by rcases hv with rfl | ⟨t, rfl⟩ <;> exact Nat.le_of_ble_eq_true rfl) ?_
  refine g_perm [0, 1] rfl ?_
  show G E m_PC_checkIndex 0 [(0, .int (nI a)), (1, .int (nI b))] [] h 0 0 _ noX
  refine g_iload_n (pc := 0) d_PC_checkIndex_0 rfl 0 rfl ?_
  refine g_if_lt (pc := 1) (tgt := 9) d_PC_checkIndex_1 (by decide) (fun c_1 => ?_) (fun c_1 => ?_)
  · exact absurd c_1 (nI_pos (by omega))
  · skip
    refine g_iload_n (pc := 4) d_PC_checkIndex_4 rfl 0 rfl ?_
    refine g_iload_n (pc := 5) d_PC_checkIndex_5 rfl 1 rfl ?_
    refine g_icmp_lt (pc := 6) (tgt := 16) d_PC_checkIndex_6 (by decide) (fun c_6 => ?_) (fun c_6 => ?_)
    · skip
      refine g_iload_n (pc := 16) d_PC_checkIndex_16 rfl 0 rfl ?_
      refine g_iret (pc := 17) d_PC_checkIndex_17 rfl ?_
      exact ⟨rfl, rfl⟩
    · exact absurd (nI_lt hab hb) c_6
set_option maxRecDepth 20000 in
theorem ct_ST_checkIndex {E : En} {h : Hp} {a b : Nat} (hab : a < b) (hb : b < 2 ^ 31) : CR E m_ST_checkIndex [.int (nI a), .int (nI b)] h (none) (h) := by
  refine ct_of rfl (by decide +kernel) (Nat.le_of_ble_eq_true rfl) ?_
  show G E m_ST_checkIndex 0 [(0, .int (nI a)), (1, .int (nI b))] [] h 0 0 _ noX
  refine g_iload_n (pc := 0) d_ST_checkIndex_0 rfl 0 rfl ?_
  refine g_iload_n (pc := 1) d_ST_checkIndex_1 rfl 1 rfl ?_
  refine g_getsQ (pc := 2) d_ST_checkIndex_2 (tg_2 93 rfl rfl) (fun v hv => ?_)
  refine g_cS1 (pc := 5) (As := [.int _, .int _, v]) d_ST_checkIndex_5 rfl ms_PC_checkIndex st_ST_checkIndex_1059 rfl rfl (Nat.le_of_ble_eq_true rfl) (ct_PC_checkIndex hab hb hv) ?_
  refine g_pop (pc := 8) d_ST_checkIndex_8 rfl ?_
  refine g_vret (pc := 9) d_ST_checkIndex_9 rfl ?_
  exact ⟨rfl, rfl⟩
set_option maxRecDepth 20000 in
theorem ct_SL_charAt {E : En} {h : Hp} {i j : Nat} (hi : i < 8) (hj : j < strL.getD i 0) : CR E m_SL_charAt [.ref (eV E i), .int (nI j)] h (some (.int ((strB.getD i []).getD j 0))) (h) := by
  refine ct_of rfl (by decide +kernel) (Nat.le_of_ble_eq_true rfl) ?_
  show G E m_SL_charAt 0 [(0, .ref (eV E i)), (1, .int (nI j))] [] h 0 0 _ noX
  refine g_iload_n (pc := 0) d_SL_charAt_0 rfl 1 rfl ?_
  refine g_aload_n (pc := 1) d_SL_charAt_1 rfl 0 rfl ?_
  refine g_strLen (pc := 2) hi d_SL_charAt_2 ?_
  refine g_cS0 (pc := 3) (As := [.int _, .int _]) d_SL_charAt_3 rfl ms_ST_checkIndex st_SL_charAt_9 rfl rfl (Nat.le_of_ble_eq_true rfl) (ct_ST_checkIndex hj (Nat.lt_trans (strL_lt i hi) (by decide))) ?_
  refine g_aload_n (pc := 6) d_SL_charAt_6 rfl 0 rfl ?_
  refine g_iload_n (pc := 7) d_SL_charAt_7 rfl 1 rfl ?_
  refine g_strBa (pc := 8) hi hj d_SL_charAt_8 ?_
  refine g_sipush (pc := 9) (v := 255) d_SL_charAt_9 (by decide) ?_
  refine g_iand (pc := 12) d_SL_charAt_12 ?_
  refine g_i2c (pc := 13) d_SL_charAt_13 ?_
  refine g_nret (pc := 14) d_SL_charAt_14 rfl (by exact pk_nc _) ?_
  exact ⟨by rw [strB_ch i hi j hj], rfl⟩
set_option maxRecDepth 20000 in
theorem ct_ST_charAt {E : En} {h : Hp} {i j : Nat} (hi : i < 8) (hj : j < strL.getD i 0) : CR E m_ST_charAt [.ref (eS E i), .int (nI j)] h (some (.int ((strB.getD i []).getD j 0))) (h) := by
  refine ct_of rfl (by decide +kernel) (Nat.le_of_ble_eq_true rfl) ?_
  show G E m_ST_charAt 0 [(0, .ref (eS E i)), (1, .int (nI j))] [] h 0 0 _ noX
  refine g_aload_n (pc := 0) d_ST_charAt_0 rfl 0 rfl ?_
  refine g_callStr (pc := 1) (As := []) hi d_ST_charAt_1 rfl mv_ST_isLatin1 rfl st_ST_charAt_492 rfl rfl (Nat.le_of_ble_eq_true rfl) (ct_ST_isLatin1 hi) ?_
  refine g_if_eq (pc := 4) (tgt := 16) d_ST_charAt_4 (by decide) (fun c_4 => ?_) (fun c_4 => ?_)
  · exact absurd c_4 (by decide)
  · skip
    refine g_aload_n (pc := 7) d_ST_charAt_7 rfl 0 rfl ?_
    refine g_strV (pc := 8) hi d_ST_charAt_8 (tg_3 201 rfl rfl) ?_
    refine g_iload_n (pc := 11) d_ST_charAt_11 rfl 1 rfl ?_
    refine g_cS1 (pc := 12) (As := [.ref _, .int _]) d_ST_charAt_12 rfl ms_SL_charAt st_ST_charAt_495 rfl rfl (Nat.le_of_ble_eq_true rfl) (ct_SL_charAt hi hj) ?_
    refine g_nret (pc := 15) d_ST_charAt_15 rfl (by exact strB_n i hi j hj) ?_
    exact ⟨rfl, rfl⟩
