/-! THE JDK: StringBuilder, its methods -/
def m_SB_init : Mt := (⟨"java/lang/StringBuilder", "<init>", "()V"⟩, prog_26_method_1_code, 1, (Option.none : Option Jvm.ClassFile.FieldType), [], 9, 421)
def m_SB_length : Mt := (⟨"java/lang/StringBuilder", "length", "()I"⟩, prog_26_method_93_code, 1, (Option.some Jvm.ClassFile.FieldType.int), [], 9, 420)
def m_SB_charAt : Mt := (⟨"java/lang/StringBuilder", "charAt", "(I)C"⟩, prog_26_method_88_code, 2, (Option.some Jvm.ClassFile.FieldType.char), [], 11, 467)
def m_SB_setLength : Mt := (⟨"java/lang/StringBuilder", "setLength", "(I)V"⟩, prog_26_method_89_code, 2, (Option.none : Option Jvm.ClassFile.FieldType), [], 10, 443)
def m_SB_appendI : Mt := (⟨"java/lang/StringBuilder", "append", "(I)Ljava/lang/StringBuilder;"⟩, prog_26_method_15_code, 2, (Option.some (Jvm.ClassFile.FieldType.object "java/lang/StringBuilder")), [], 10, 449)
def m_SB_appendC : Mt := (⟨"java/lang/StringBuilder", "append", "(C)Ljava/lang/StringBuilder;"⟩, prog_26_method_14_code, 2, (Option.some (Jvm.ClassFile.FieldType.object "java/lang/StringBuilder")), [], 10, 443)
def m_AS_init : Mt := (⟨"java/lang/AbstractStringBuilder", "<init>", "(I)V"⟩, prog_11_method_2_code, 2, (Option.none : Option Jvm.ClassFile.FieldType), [], 8, 400)
def m_AS_length : Mt := (⟨"java/lang/AbstractStringBuilder", "length", "()I"⟩, prog_11_method_6_code, 1, (Option.some Jvm.ClassFile.FieldType.int), [], 8, 400)
def m_AS_charAt : Mt := (⟨"java/lang/AbstractStringBuilder", "charAt", "(I)C"⟩, prog_11_method_14_code, 5, (Option.some Jvm.ClassFile.FieldType.char), [], 10, 443)
def m_AS_setLength : Mt := (⟨"java/lang/AbstractStringBuilder", "setLength", "(I)V"⟩, prog_11_method_13_code, 2, (Option.none : Option Jvm.ClassFile.FieldType), [], 9, 422)
def m_AS_appendI : Mt := (⟨"java/lang/AbstractStringBuilder", "append", "(I)Ljava/lang/AbstractStringBuilder;"⟩, prog_11_method_32_code, 4, (Option.some (Jvm.ClassFile.FieldType.object "java/lang/AbstractStringBuilder")), [], 9, 426)
def m_AS_appendC : Mt := (⟨"java/lang/AbstractStringBuilder", "append", "(C)Ljava/lang/AbstractStringBuilder;"⟩, prog_11_method_31_code, 2, (Option.some (Jvm.ClassFile.FieldType.object "java/lang/AbstractStringBuilder")), [], 9, 422)
def m_AS_ensure : Mt := (⟨"java/lang/AbstractStringBuilder", "ensureCapacityInternal", "(I)V"⟩, prog_11_method_9_code, 3, (Option.none : Option Jvm.ClassFile.FieldType), [], 8, 400)
def m_AS_isLatin1 : Mt := (⟨"java/lang/AbstractStringBuilder", "isLatin1", "()Z"⟩, prog_11_method_68_code, 1, (Option.some Jvm.ClassFile.FieldType.boolean), [], 8, 400)
def m_IT_stringSize : Mt := (⟨"java/lang/Integer", "stringSize", "(I)I"⟩, prog_21_method_13_code, 4, (Option.some Jvm.ClassFile.FieldType.int), [], 8, 400)
def m_IT_getChars : Mt := (⟨"java/lang/Integer", "getChars", "(II[B)I"⟩, prog_21_method_12_code, 7, (Option.some Jvm.ClassFile.FieldType.int), [], 8, 400)
def m_SL_canEncode : Mt := (⟨"java/lang/StringLatin1", "canEncode", "(C)Z"⟩, prog_28_method_3_code, 1, (Option.some Jvm.ClassFile.FieldType.boolean), [], 8, 400)
theorem mi_SB_init : MI m_SB_init 0 := ⟨rfl, rfl, rfl, tg_2 45 rfl rfl, tg_1 9 rfl rfl, tg_2 46 rfl rfl, ⟨by decide, by decide, by decide +kernel⟩⟩
theorem mv_SB_length : MV m_SB_length 0 := ⟨rfl, tg_3 181 rfl rfl, tg_3 182 rfl rfl, tg_1 9 rfl rfl, tg_3 183 rfl rfl, ⟨by decide, by decide, by decide +kernel⟩⟩
theorem mv_SB_charAt : MV m_SB_charAt 1 := ⟨rfl, tg_3 188 rfl rfl, tg_3 189 rfl rfl, tg_1 9 rfl rfl, tg_3 190 rfl rfl, ⟨by decide, by decide, by decide +kernel⟩⟩
theorem mv_SB_setLength : MV m_SB_setLength 1 := ⟨rfl, tg_6 46 rfl rfl, tg_6 47 rfl rfl, tg_1 9 rfl rfl, tg_6 48 rfl rfl, ⟨by decide, by decide, by decide +kernel⟩⟩
theorem mv_SB_appendI : MV m_SB_appendI 1 := ⟨rfl, tg_6 158 rfl rfl, tg_6 159 rfl rfl, tg_1 9 rfl rfl, tg_6 160 rfl rfl, ⟨by decide, by decide, by decide +kernel⟩⟩
theorem mv_SB_appendC : MV m_SB_appendC 1 := ⟨rfl, tg_7 49 rfl rfl, tg_7 50 rfl rfl, tg_1 9 rfl rfl, tg_7 51 rfl rfl, ⟨by decide, by decide, by decide +kernel⟩⟩
theorem mi_AS_init : MI m_AS_init 1 := ⟨rfl, rfl, rfl, tg_2 48 rfl rfl, tg_1 8 rfl rfl, tg_2 49 rfl rfl, ⟨by decide, by decide, by decide +kernel⟩⟩
theorem mu_AS_length : MU m_AS_length 0 := ⟨rfl, tg_3 185 rfl rfl, tg_9 211 rfl rfl, tg_2 73 rfl rfl, tg_1 8 rfl rfl, tg_3 186 rfl rfl, ⟨by decide, by decide +kernel⟩⟩
theorem mu_AS_charAt : MU m_AS_charAt 1 := ⟨rfl, tg_3 192 rfl rfl, tg_9 212 rfl rfl, tg_2 73 rfl rfl, tg_1 8 rfl rfl, tg_3 193 rfl rfl, ⟨by decide, by decide +kernel⟩⟩
theorem mu_AS_setLength : MU m_AS_setLength 1 := ⟨rfl, tg_6 50 rfl rfl, tg_9 214 rfl rfl, tg_2 73 rfl rfl, tg_1 8 rfl rfl, tg_6 51 rfl rfl, ⟨by decide, by decide +kernel⟩⟩
theorem mu_AS_appendI : MU m_AS_appendI 1 := ⟨rfl, tg_6 162 rfl rfl, tg_9 222 rfl rfl, tg_2 73 rfl rfl, tg_1 8 rfl rfl, tg_6 163 rfl rfl, ⟨by decide, by decide +kernel⟩⟩
theorem mu_AS_appendC : MU m_AS_appendC 1 := ⟨rfl, tg_7 53 rfl rfl, tg_9 224 rfl rfl, tg_2 73 rfl rfl, tg_1 8 rfl rfl, tg_7 54 rfl rfl, ⟨by decide, by decide +kernel⟩⟩
theorem mp_AS_ensure : MP m_AS_ensure 1 := ⟨rfl, tg_6 73 rfl rfl, tg_1 8 rfl rfl, tg_6 74 rfl rfl, ⟨by decide, by decide, by decide +kernel⟩⟩
theorem mp_AS_isLatin1 : MP m_AS_isLatin1 0 := ⟨rfl, tg_6 103 rfl rfl, tg_1 8 rfl rfl, tg_6 106 rfl rfl, ⟨by decide, by decide, by decide +kernel⟩⟩
theorem ms_IT_stringSize : MS m_IT_stringSize 1 := ⟨rfl, tg_6 165 rfl rfl, tg_1 28 rfl rfl, tg_6 166 rfl rfl, ⟨by decide, by decide, by decide +kernel⟩⟩
theorem ms_IT_getChars : MS m_IT_getChars 3 := ⟨rfl, tg_6 168 rfl rfl, tg_1 28 rfl rfl, tg_6 169 rfl rfl, ⟨by decide, by decide, by decide +kernel⟩⟩
theorem ms_SL_canEncode : MS m_SL_canEncode 1 := ⟨rfl, tg_7 56 rfl rfl, tg_1 12 rfl rfl, tg_7 57 rfl rfl, ⟨by decide, by decide, by decide +kernel⟩⟩
theorem sel_AS_ensure {E : En} {M : Mt} {p : Program} {R : Room} {s : State} {m : MethodId} {args : Array Value} {meth : Method} {c : Code} {H : Heap} {locs : List Loc} (C : Cx E M p R s m args meth c H locs) : (Cond.selects "java/lang/StringBuilder" (mY m_AS_ensure) (mY m_AS_ensure)).before args s = true := C.hts _ selE_in
theorem sel_AS_isLatin1 {E : En} {M : Mt} {p : Program} {R : Room} {s : State} {m : MethodId} {args : Array Value} {meth : Method} {c : Code} {H : Heap} {locs : List Loc} (C : Cx E M p R s m args meth c H locs) : (Cond.selects "java/lang/StringBuilder" (mY m_AS_isLatin1) (mY m_AS_isLatin1)).before args s = true := C.hts _ sel_L1
theorem st_SB_init_1 : ST m_SB_init 1 m_AS_init := ⟨tg_2 47 rfl rfl, by decide, by decide⟩
theorem st_SB_length_343 : ST m_SB_length 343 m_AS_length := ⟨tg_3 184 rfl rfl, by decide, by decide⟩
theorem st_SB_charAt_329 : ST m_SB_charAt 329 m_AS_charAt := ⟨tg_3 191 rfl rfl, by decide, by decide⟩
theorem st_SB_setLength_333 : ST m_SB_setLength 333 m_AS_setLength := ⟨tg_6 49 rfl rfl, by decide, by decide⟩
theorem st_SB_appendI_53 : ST m_SB_appendI 53 m_AS_appendI := ⟨tg_6 161 rfl rfl, by decide, by decide⟩
theorem st_SB_appendC_50 : ST m_SB_appendC 50 m_AS_appendC := ⟨tg_7 52 rfl rfl, by decide, by decide⟩
theorem st_AS_charAt_144 : ST m_AS_charAt 144 m_ST_checkIndex := ⟨tg_3 195 rfl rfl, by decide, by decide⟩
theorem st_AS_setLength_100 : ST m_AS_setLength 100 m_AS_ensure := ⟨tg_6 71 rfl rfl, by decide, by decide⟩
theorem st_AS_setLength_83 : ST m_AS_setLength 83 m_AS_isLatin1 := ⟨tg_6 102 rfl rfl, by decide, by decide⟩
theorem st_AS_appendI_245 : ST m_AS_appendI 245 m_IT_stringSize := ⟨tg_6 164 rfl rfl, by decide, by decide⟩
theorem st_AS_appendI_100 : ST m_AS_appendI 100 m_AS_ensure := ⟨tg_6 71 rfl rfl, by decide, by decide⟩
theorem st_AS_appendI_83 : ST m_AS_appendI 83 m_AS_isLatin1 := ⟨tg_6 102 rfl rfl, by decide, by decide⟩
theorem st_AS_appendI_248 : ST m_AS_appendI 248 m_IT_getChars := ⟨tg_6 167 rfl rfl, by decide, by decide⟩
theorem st_AS_appendC_100 : ST m_AS_appendC 100 m_AS_ensure := ⟨tg_6 71 rfl rfl, by decide, by decide⟩
theorem st_AS_appendC_83 : ST m_AS_appendC 83 m_AS_isLatin1 := ⟨tg_6 102 rfl rfl, by decide, by decide⟩
theorem st_AS_appendC_191 : ST m_AS_appendC 191 m_SL_canEncode := ⟨tg_7 55 rfl rfl, by decide, by decide⟩
theorem st_HS_init_41 : ST m_HS_init 41 m_SB_init := ⟨tg_2 44 rfl rfl, by decide, by decide⟩
theorem st_HS_outputByte_299 : ST m_HS_outputByte 299 m_SB_length := ⟨tg_3 180 rfl rfl, by decide, by decide⟩
theorem st_HS_outputByte_301 : ST m_HS_outputByte 301 m_SB_charAt := ⟨tg_3 187 rfl rfl, by decide, by decide⟩
theorem st_HS_writeShop_289 : ST m_HS_writeShop 289 m_SB_setLength := ⟨tg_6 45 rfl rfl, by decide, by decide⟩
theorem st_HS_writeShop_292 : ST m_HS_writeShop 292 m_SB_appendI := ⟨tg_7 47 rfl rfl, by decide, by decide⟩
theorem st_HS_writeShop_296 : ST m_HS_writeShop 296 m_SB_appendC := ⟨tg_7 48 rfl rfl, by decide, by decide⟩
theorem st_HS_writeShop_299 : ST m_HS_writeShop 299 m_SB_length := ⟨tg_3 180 rfl rfl, by decide, by decide⟩
theorem fl_AS_15 : FLk "java/lang/AbstractStringBuilder" 15 8 0 := ⟨_, rfl, by decide, tg_2 60 rfl rfl⟩
theorem fl_AS_22 : FLk "java/lang/AbstractStringBuilder" 22 8 1 := ⟨_, rfl, by decide, tg_2 61 rfl rfl⟩
theorem fl_AS_73 : FLk "java/lang/AbstractStringBuilder" 73 8 3 := ⟨_, rfl, by decide, tg_2 62 rfl rfl⟩
theorem fl_AS_79 : FLk "java/lang/AbstractStringBuilder" 79 8 2 := ⟨_, rfl, by decide, tg_2 64 rfl rfl⟩
theorem d_SB_init_0 : decode (mC m_SB_init) 0 = .ok (.aload_n 0, 1) := by decide +kernel
theorem d_SB_init_1 : decode (mC m_SB_init) 1 = .ok (.bipush 16, 2) := by decide +kernel
theorem d_SB_init_3 : decode (mC m_SB_init) 3 = .ok (.invokespecial 1, 3) := by decide +kernel
theorem d_SB_init_6 : decode (mC m_SB_init) 6 = .ok (.return_, 1) := by decide +kernel
theorem d_SB_length_0 : decode (mC m_SB_length) 0 = .ok (.aload_n 0, 1) := by decide +kernel
theorem d_SB_length_1 : decode (mC m_SB_length) 1 = .ok (.invokespecial 343, 3) := by decide +kernel
theorem d_SB_length_4 : decode (mC m_SB_length) 4 = .ok (.ireturn, 1) := by decide +kernel
theorem d_SB_charAt_0 : decode (mC m_SB_charAt) 0 = .ok (.aload_n 0, 1) := by decide +kernel
theorem d_SB_charAt_1 : decode (mC m_SB_charAt) 1 = .ok (.iload_n 1, 1) := by decide +kernel
theorem d_SB_charAt_2 : decode (mC m_SB_charAt) 2 = .ok (.invokespecial 329, 3) := by decide +kernel
theorem d_SB_charAt_5 : decode (mC m_SB_charAt) 5 = .ok (.ireturn, 1) := by decide +kernel
theorem d_SB_setLength_0 : decode (mC m_SB_setLength) 0 = .ok (.aload_n 0, 1) := by decide +kernel
theorem d_SB_setLength_1 : decode (mC m_SB_setLength) 1 = .ok (.iload_n 1, 1) := by decide +kernel
theorem d_SB_setLength_2 : decode (mC m_SB_setLength) 2 = .ok (.invokespecial 333, 3) := by decide +kernel
theorem d_SB_setLength_5 : decode (mC m_SB_setLength) 5 = .ok (.return_, 1) := by decide +kernel
theorem d_SB_appendI_0 : decode (mC m_SB_appendI) 0 = .ok (.aload_n 0, 1) := by decide +kernel
theorem d_SB_appendI_1 : decode (mC m_SB_appendI) 1 = .ok (.iload_n 1, 1) := by decide +kernel
theorem d_SB_appendI_2 : decode (mC m_SB_appendI) 2 = .ok (.invokespecial 53, 3) := by decide +kernel
theorem d_SB_appendI_5 : decode (mC m_SB_appendI) 5 = .ok (.pop, 1) := by decide +kernel
theorem d_SB_appendI_6 : decode (mC m_SB_appendI) 6 = .ok (.aload_n 0, 1) := by decide +kernel
theorem d_SB_appendI_7 : decode (mC m_SB_appendI) 7 = .ok (.areturn, 1) := by decide +kernel
theorem d_SB_appendC_0 : decode (mC m_SB_appendC) 0 = .ok (.aload_n 0, 1) := by decide +kernel
theorem d_SB_appendC_1 : decode (mC m_SB_appendC) 1 = .ok (.iload_n 1, 1) := by decide +kernel
theorem d_SB_appendC_2 : decode (mC m_SB_appendC) 2 = .ok (.invokespecial 50, 3) := by decide +kernel
theorem d_SB_appendC_5 : decode (mC m_SB_appendC) 5 = .ok (.pop, 1) := by decide +kernel
theorem d_SB_appendC_6 : decode (mC m_SB_appendC) 6 = .ok (.aload_n 0, 1) := by decide +kernel
theorem d_SB_appendC_7 : decode (mC m_SB_appendC) 7 = .ok (.areturn, 1) := by decide +kernel
theorem d_AS_init_0 : decode (mC m_AS_init) 0 = .ok (.aload_n 0, 1) := by decide +kernel
theorem d_AS_init_1 : decode (mC m_AS_init) 1 = .ok (.invokespecial 3, 3) := by decide +kernel
theorem d_AS_init_4 : decode (mC m_AS_init) 4 = .ok (.getstatic 18, 3) := by decide +kernel
theorem d_AS_init_7 : decode (mC m_AS_init) 7 = .ok (.ifCond .eq 18, 3) := by decide +kernel
theorem d_AS_init_10 : decode (mC m_AS_init) 10 = .ok (.aload_n 0, 1) := by decide +kernel
theorem d_AS_init_11 : decode (mC m_AS_init) 11 = .ok (.iload_n 1, 1) := by decide +kernel
theorem d_AS_init_12 : decode (mC m_AS_init) 12 = .ok (.newarray .byte, 2) := by decide +kernel
theorem d_AS_init_14 : decode (mC m_AS_init) 14 = .ok (.putfield 15, 3) := by decide +kernel
theorem d_AS_init_17 : decode (mC m_AS_init) 17 = .ok (.aload_n 0, 1) := by decide +kernel
theorem d_AS_init_18 : decode (mC m_AS_init) 18 = .ok (.iconst 0, 1) := by decide +kernel
theorem d_AS_init_19 : decode (mC m_AS_init) 19 = .ok (.putfield 22, 3) := by decide +kernel
theorem d_AS_init_22 : decode (mC m_AS_init) 22 = .ok (.goto 16, 3) := by decide +kernel
theorem d_AS_init_25 : decode (mC m_AS_init) 25 = .ok (.aload_n 0, 1) := by decide +kernel
theorem d_AS_init_26 : decode (mC m_AS_init) 26 = .ok (.iload_n 1, 1) := by decide +kernel
theorem d_AS_init_27 : decode (mC m_AS_init) 27 = .ok (.invokestatic 26, 3) := by decide +kernel
theorem d_AS_init_30 : decode (mC m_AS_init) 30 = .ok (.putfield 15, 3) := by decide +kernel
theorem d_AS_init_33 : decode (mC m_AS_init) 33 = .ok (.aload_n 0, 1) := by decide +kernel
theorem d_AS_init_34 : decode (mC m_AS_init) 34 = .ok (.iconst 1, 1) := by decide +kernel
theorem d_AS_init_35 : decode (mC m_AS_init) 35 = .ok (.putfield 22, 3) := by decide +kernel
theorem d_AS_init_38 : decode (mC m_AS_init) 38 = .ok (.return_, 1) := by decide +kernel
theorem d_AS_length_0 : decode (mC m_AS_length) 0 = .ok (.aload_n 0, 1) := by decide +kernel
theorem d_AS_length_1 : decode (mC m_AS_length) 1 = .ok (.getfield 79, 3) := by decide +kernel
theorem d_AS_length_4 : decode (mC m_AS_length) 4 = .ok (.ireturn, 1) := by decide +kernel
theorem d_AS_charAt_0 : decode (mC m_AS_charAt) 0 = .ok (.aload_n 0, 1) := by decide +kernel
theorem d_AS_charAt_1 : decode (mC m_AS_charAt) 1 = .ok (.getfield 22, 3) := by decide +kernel
theorem d_AS_charAt_4 : decode (mC m_AS_charAt) 4 = .ok (.istore_n 2, 1) := by decide +kernel
theorem d_AS_charAt_5 : decode (mC m_AS_charAt) 5 = .ok (.aload_n 0, 1) := by decide +kernel
theorem d_AS_charAt_6 : decode (mC m_AS_charAt) 6 = .ok (.getfield 15, 3) := by decide +kernel
theorem d_AS_charAt_9 : decode (mC m_AS_charAt) 9 = .ok (.astore_n 3, 1) := by decide +kernel
theorem d_AS_charAt_10 : decode (mC m_AS_charAt) 10 = .ok (.aload_n 0, 1) := by decide +kernel
theorem d_AS_charAt_11 : decode (mC m_AS_charAt) 11 = .ok (.getfield 79, 3) := by decide +kernel
theorem d_AS_charAt_14 : decode (mC m_AS_charAt) 14 = .ok (.aload_n 3, 1) := by decide +kernel
theorem d_AS_charAt_15 : decode (mC m_AS_charAt) 15 = .ok (.arraylength, 1) := by decide +kernel
theorem d_AS_charAt_16 : decode (mC m_AS_charAt) 16 = .ok (.iload_n 2, 1) := by decide +kernel
theorem d_AS_charAt_17 : decode (mC m_AS_charAt) 17 = .ok (.ishr, 1) := by decide +kernel
theorem d_AS_charAt_18 : decode (mC m_AS_charAt) 18 = .ok (.invokestatic 138, 3) := by decide +kernel
theorem d_AS_charAt_21 : decode (mC m_AS_charAt) 21 = .ok (.istore 4, 2) := by decide +kernel
theorem d_AS_charAt_23 : decode (mC m_AS_charAt) 23 = .ok (.iload_n 1, 1) := by decide +kernel
theorem d_AS_charAt_24 : decode (mC m_AS_charAt) 24 = .ok (.iload 4, 2) := by decide +kernel
theorem d_AS_charAt_26 : decode (mC m_AS_charAt) 26 = .ok (.invokestatic 144, 3) := by decide +kernel
theorem d_AS_charAt_29 : decode (mC m_AS_charAt) 29 = .ok (.iload_n 2, 1) := by decide +kernel
theorem d_AS_charAt_30 : decode (mC m_AS_charAt) 30 = .ok (.ifCond .ne 12, 3) := by decide +kernel
theorem d_AS_charAt_33 : decode (mC m_AS_charAt) 33 = .ok (.aload_n 3, 1) := by decide +kernel
theorem d_AS_charAt_34 : decode (mC m_AS_charAt) 34 = .ok (.iload_n 1, 1) := by decide +kernel
theorem d_AS_charAt_35 : decode (mC m_AS_charAt) 35 = .ok (.baload, 1) := by decide +kernel
theorem d_AS_charAt_36 : decode (mC m_AS_charAt) 36 = .ok (.sipush 255, 3) := by decide +kernel
theorem d_AS_charAt_39 : decode (mC m_AS_charAt) 39 = .ok (.iand, 1) := by decide +kernel
theorem d_AS_charAt_40 : decode (mC m_AS_charAt) 40 = .ok (.i2c, 1) := by decide +kernel
theorem d_AS_charAt_41 : decode (mC m_AS_charAt) 41 = .ok (.ireturn, 1) := by decide +kernel
theorem d_AS_charAt_42 : decode (mC m_AS_charAt) 42 = .ok (.aload_n 3, 1) := by decide +kernel
theorem d_AS_charAt_43 : decode (mC m_AS_charAt) 43 = .ok (.iload_n 1, 1) := by decide +kernel
theorem d_AS_charAt_44 : decode (mC m_AS_charAt) 44 = .ok (.invokestatic 148, 3) := by decide +kernel
theorem d_AS_charAt_47 : decode (mC m_AS_charAt) 47 = .ok (.ireturn, 1) := by decide +kernel
theorem d_AS_setLength_0 : decode (mC m_AS_setLength) 0 = .ok (.iload_n 1, 1) := by decide +kernel
theorem d_AS_setLength_1 : decode (mC m_AS_setLength) 1 = .ok (.ifCond .ge 12, 3) := by decide +kernel
theorem d_AS_setLength_4 : decode (mC m_AS_setLength) 4 = .ok (.new 129, 3) := by decide +kernel
theorem d_AS_setLength_7 : decode (mC m_AS_setLength) 7 = .ok (.dup, 1) := by decide +kernel
theorem d_AS_setLength_8 : decode (mC m_AS_setLength) 8 = .ok (.iload_n 1, 1) := by decide +kernel
theorem d_AS_setLength_9 : decode (mC m_AS_setLength) 9 = .ok (.invokespecial 131, 3) := by decide +kernel
theorem d_AS_setLength_12 : decode (mC m_AS_setLength) 12 = .ok (.athrow, 1) := by decide +kernel
theorem d_AS_setLength_13 : decode (mC m_AS_setLength) 13 = .ok (.aload_n 0, 1) := by decide +kernel
theorem d_AS_setLength_14 : decode (mC m_AS_setLength) 14 = .ok (.iload_n 1, 1) := by decide +kernel
theorem d_AS_setLength_15 : decode (mC m_AS_setLength) 15 = .ok (.invokevirtual 100, 3) := by decide +kernel
theorem d_AS_setLength_18 : decode (mC m_AS_setLength) 18 = .ok (.aload_n 0, 1) := by decide +kernel
theorem d_AS_setLength_19 : decode (mC m_AS_setLength) 19 = .ok (.getfield 79, 3) := by decide +kernel
theorem d_AS_setLength_22 : decode (mC m_AS_setLength) 22 = .ok (.iload_n 1, 1) := by decide +kernel
theorem d_AS_setLength_23 : decode (mC m_AS_setLength) 23 = .ok (.if_icmp .ge 40, 3) := by decide +kernel
theorem d_AS_setLength_26 : decode (mC m_AS_setLength) 26 = .ok (.aload_n 0, 1) := by decide +kernel
theorem d_AS_setLength_27 : decode (mC m_AS_setLength) 27 = .ok (.invokevirtual 83, 3) := by decide +kernel
theorem d_AS_setLength_30 : decode (mC m_AS_setLength) 30 = .ok (.ifCond .eq 18, 3) := by decide +kernel
theorem d_AS_setLength_33 : decode (mC m_AS_setLength) 33 = .ok (.aload_n 0, 1) := by decide +kernel
theorem d_AS_setLength_34 : decode (mC m_AS_setLength) 34 = .ok (.getfield 15, 3) := by decide +kernel
theorem d_AS_setLength_37 : decode (mC m_AS_setLength) 37 = .ok (.aload_n 0, 1) := by decide +kernel
theorem d_AS_setLength_38 : decode (mC m_AS_setLength) 38 = .ok (.getfield 79, 3) := by decide +kernel
theorem d_AS_setLength_41 : decode (mC m_AS_setLength) 41 = .ok (.iload_n 1, 1) := by decide +kernel
theorem d_AS_setLength_42 : decode (mC m_AS_setLength) 42 = .ok (.invokestatic 133, 3) := by decide +kernel
theorem d_AS_setLength_45 : decode (mC m_AS_setLength) 45 = .ok (.goto 31, 3) := by decide +kernel
theorem d_AS_setLength_48 : decode (mC m_AS_setLength) 48 = .ok (.aload_n 0, 1) := by decide +kernel
theorem d_AS_setLength_49 : decode (mC m_AS_setLength) 49 = .ok (.getfield 15, 3) := by decide +kernel
theorem d_AS_setLength_52 : decode (mC m_AS_setLength) 52 = .ok (.aload_n 0, 1) := by decide +kernel
theorem d_AS_setLength_53 : decode (mC m_AS_setLength) 53 = .ok (.getfield 79, 3) := by decide +kernel
theorem d_AS_setLength_56 : decode (mC m_AS_setLength) 56 = .ok (.iload_n 1, 1) := by decide +kernel
theorem d_AS_setLength_57 : decode (mC m_AS_setLength) 57 = .ok (.invokestatic 137, 3) := by decide +kernel
theorem d_AS_setLength_60 : decode (mC m_AS_setLength) 60 = .ok (.goto 16, 3) := by decide +kernel
theorem d_AS_setLength_63 : decode (mC m_AS_setLength) 63 = .ok (.aload_n 0, 1) := by decide +kernel
theorem d_AS_setLength_64 : decode (mC m_AS_setLength) 64 = .ok (.getfield 79, 3) := by decide +kernel
theorem d_AS_setLength_67 : decode (mC m_AS_setLength) 67 = .ok (.iload_n 1, 1) := by decide +kernel
theorem d_AS_setLength_68 : decode (mC m_AS_setLength) 68 = .ok (.if_icmp .le 8, 3) := by decide +kernel
theorem d_AS_setLength_71 : decode (mC m_AS_setLength) 71 = .ok (.aload_n 0, 1) := by decide +kernel
theorem d_AS_setLength_72 : decode (mC m_AS_setLength) 72 = .ok (.iconst 1, 1) := by decide +kernel
theorem d_AS_setLength_73 : decode (mC m_AS_setLength) 73 = .ok (.putfield 73, 3) := by decide +kernel
theorem d_AS_setLength_76 : decode (mC m_AS_setLength) 76 = .ok (.aload_n 0, 1) := by decide +kernel
theorem d_AS_setLength_77 : decode (mC m_AS_setLength) 77 = .ok (.iload_n 1, 1) := by decide +kernel
theorem d_AS_setLength_78 : decode (mC m_AS_setLength) 78 = .ok (.putfield 79, 3) := by decide +kernel
theorem d_AS_setLength_81 : decode (mC m_AS_setLength) 81 = .ok (.return_, 1) := by decide +kernel
theorem d_AS_appendI_0 : decode (mC m_AS_appendI) 0 = .ok (.aload_n 0, 1) := by decide +kernel
theorem d_AS_appendI_1 : decode (mC m_AS_appendI) 1 = .ok (.getfield 79, 3) := by decide +kernel
theorem d_AS_appendI_4 : decode (mC m_AS_appendI) 4 = .ok (.istore_n 2, 1) := by decide +kernel
theorem d_AS_appendI_5 : decode (mC m_AS_appendI) 5 = .ok (.iload_n 2, 1) := by decide +kernel
theorem d_AS_appendI_6 : decode (mC m_AS_appendI) 6 = .ok (.iload_n 1, 1) := by decide +kernel
theorem d_AS_appendI_7 : decode (mC m_AS_appendI) 7 = .ok (.invokestatic 245, 3) := by decide +kernel
theorem d_AS_appendI_10 : decode (mC m_AS_appendI) 10 = .ok (.iadd, 1) := by decide +kernel
theorem d_AS_appendI_11 : decode (mC m_AS_appendI) 11 = .ok (.istore_n 3, 1) := by decide +kernel
theorem d_AS_appendI_12 : decode (mC m_AS_appendI) 12 = .ok (.aload_n 0, 1) := by decide +kernel
theorem d_AS_appendI_13 : decode (mC m_AS_appendI) 13 = .ok (.iload_n 3, 1) := by decide +kernel
theorem d_AS_appendI_14 : decode (mC m_AS_appendI) 14 = .ok (.invokevirtual 100, 3) := by decide +kernel
theorem d_AS_appendI_17 : decode (mC m_AS_appendI) 17 = .ok (.aload_n 0, 1) := by decide +kernel
theorem d_AS_appendI_18 : decode (mC m_AS_appendI) 18 = .ok (.invokevirtual 83, 3) := by decide +kernel
theorem d_AS_appendI_21 : decode (mC m_AS_appendI) 21 = .ok (.ifCond .eq 16, 3) := by decide +kernel
theorem d_AS_appendI_24 : decode (mC m_AS_appendI) 24 = .ok (.iload_n 1, 1) := by decide +kernel
theorem d_AS_appendI_25 : decode (mC m_AS_appendI) 25 = .ok (.iload_n 3, 1) := by decide +kernel
theorem d_AS_appendI_26 : decode (mC m_AS_appendI) 26 = .ok (.aload_n 0, 1) := by decide +kernel
theorem d_AS_appendI_27 : decode (mC m_AS_appendI) 27 = .ok (.getfield 15, 3) := by decide +kernel
theorem d_AS_appendI_30 : decode (mC m_AS_appendI) 30 = .ok (.invokestatic 248, 3) := by decide +kernel
theorem d_AS_appendI_33 : decode (mC m_AS_appendI) 33 = .ok (.pop, 1) := by decide +kernel
theorem d_AS_appendI_34 : decode (mC m_AS_appendI) 34 = .ok (.goto 14, 3) := by decide +kernel
theorem d_AS_appendI_37 : decode (mC m_AS_appendI) 37 = .ok (.iload_n 1, 1) := by decide +kernel
theorem d_AS_appendI_38 : decode (mC m_AS_appendI) 38 = .ok (.iload_n 2, 1) := by decide +kernel
theorem d_AS_appendI_39 : decode (mC m_AS_appendI) 39 = .ok (.iload_n 3, 1) := by decide +kernel
theorem d_AS_appendI_40 : decode (mC m_AS_appendI) 40 = .ok (.aload_n 0, 1) := by decide +kernel
theorem d_AS_appendI_41 : decode (mC m_AS_appendI) 41 = .ok (.getfield 15, 3) := by decide +kernel
theorem d_AS_appendI_44 : decode (mC m_AS_appendI) 44 = .ok (.invokestatic 251, 3) := by decide +kernel
theorem d_AS_appendI_47 : decode (mC m_AS_appendI) 47 = .ok (.pop, 1) := by decide +kernel
theorem d_AS_appendI_48 : decode (mC m_AS_appendI) 48 = .ok (.aload_n 0, 1) := by decide +kernel
theorem d_AS_appendI_49 : decode (mC m_AS_appendI) 49 = .ok (.iload_n 3, 1) := by decide +kernel
theorem d_AS_appendI_50 : decode (mC m_AS_appendI) 50 = .ok (.putfield 79, 3) := by decide +kernel
theorem d_AS_appendI_53 : decode (mC m_AS_appendI) 53 = .ok (.aload_n 0, 1) := by decide +kernel
theorem d_AS_appendI_54 : decode (mC m_AS_appendI) 54 = .ok (.areturn, 1) := by decide +kernel
theorem d_AS_appendC_0 : decode (mC m_AS_appendC) 0 = .ok (.aload_n 0, 1) := by decide +kernel
theorem d_AS_appendC_1 : decode (mC m_AS_appendC) 1 = .ok (.aload_n 0, 1) := by decide +kernel
theorem d_AS_appendC_2 : decode (mC m_AS_appendC) 2 = .ok (.getfield 79, 3) := by decide +kernel
theorem d_AS_appendC_5 : decode (mC m_AS_appendC) 5 = .ok (.iconst 1, 1) := by decide +kernel
theorem d_AS_appendC_6 : decode (mC m_AS_appendC) 6 = .ok (.iadd, 1) := by decide +kernel
theorem d_AS_appendC_7 : decode (mC m_AS_appendC) 7 = .ok (.invokevirtual 100, 3) := by decide +kernel
theorem d_AS_appendC_10 : decode (mC m_AS_appendC) 10 = .ok (.aload_n 0, 1) := by decide +kernel
theorem d_AS_appendC_11 : decode (mC m_AS_appendC) 11 = .ok (.invokevirtual 83, 3) := by decide +kernel
theorem d_AS_appendC_14 : decode (mC m_AS_appendC) 14 = .ok (.ifCond .eq 31, 3) := by decide +kernel
theorem d_AS_appendC_17 : decode (mC m_AS_appendC) 17 = .ok (.iload_n 1, 1) := by decide +kernel
theorem d_AS_appendC_18 : decode (mC m_AS_appendC) 18 = .ok (.invokestatic 191, 3) := by decide +kernel
theorem d_AS_appendC_21 : decode (mC m_AS_appendC) 21 = .ok (.ifCond .eq 24, 3) := by decide +kernel
theorem d_AS_appendC_24 : decode (mC m_AS_appendC) 24 = .ok (.aload_n 0, 1) := by decide +kernel
theorem d_AS_appendC_25 : decode (mC m_AS_appendC) 25 = .ok (.getfield 15, 3) := by decide +kernel
theorem d_AS_appendC_28 : decode (mC m_AS_appendC) 28 = .ok (.aload_n 0, 1) := by decide +kernel
theorem d_AS_appendC_29 : decode (mC m_AS_appendC) 29 = .ok (.dup, 1) := by decide +kernel
theorem d_AS_appendC_30 : decode (mC m_AS_appendC) 30 = .ok (.getfield 79, 3) := by decide +kernel
theorem d_AS_appendC_33 : decode (mC m_AS_appendC) 33 = .ok (.dup_x1, 1) := by decide +kernel
theorem d_AS_appendC_34 : decode (mC m_AS_appendC) 34 = .ok (.iconst 1, 1) := by decide +kernel
theorem d_AS_appendC_35 : decode (mC m_AS_appendC) 35 = .ok (.iadd, 1) := by decide +kernel
theorem d_AS_appendC_36 : decode (mC m_AS_appendC) 36 = .ok (.putfield 79, 3) := by decide +kernel
theorem d_AS_appendC_39 : decode (mC m_AS_appendC) 39 = .ok (.iload_n 1, 1) := by decide +kernel
theorem d_AS_appendC_40 : decode (mC m_AS_appendC) 40 = .ok (.i2b, 1) := by decide +kernel
theorem d_AS_appendC_41 : decode (mC m_AS_appendC) 41 = .ok (.bastore, 1) := by decide +kernel
theorem d_AS_appendC_42 : decode (mC m_AS_appendC) 42 = .ok (.goto 33, 3) := by decide +kernel
theorem d_AS_appendC_45 : decode (mC m_AS_appendC) 45 = .ok (.aload_n 0, 1) := by decide +kernel
theorem d_AS_appendC_46 : decode (mC m_AS_appendC) 46 = .ok (.invokevirtual 83, 3) := by decide +kernel
theorem d_AS_appendC_49 : decode (mC m_AS_appendC) 49 = .ok (.ifCond .eq 7, 3) := by decide +kernel
theorem d_AS_appendC_52 : decode (mC m_AS_appendC) 52 = .ok (.aload_n 0, 1) := by decide +kernel
theorem d_AS_appendC_53 : decode (mC m_AS_appendC) 53 = .ok (.invokevirtual 195, 3) := by decide +kernel
theorem d_AS_appendC_56 : decode (mC m_AS_appendC) 56 = .ok (.aload_n 0, 1) := by decide +kernel
theorem d_AS_appendC_57 : decode (mC m_AS_appendC) 57 = .ok (.getfield 15, 3) := by decide +kernel
theorem d_AS_appendC_60 : decode (mC m_AS_appendC) 60 = .ok (.aload_n 0, 1) := by decide +kernel
theorem d_AS_appendC_61 : decode (mC m_AS_appendC) 61 = .ok (.dup, 1) := by decide +kernel
theorem d_AS_appendC_62 : decode (mC m_AS_appendC) 62 = .ok (.getfield 79, 3) := by decide +kernel
theorem d_AS_appendC_65 : decode (mC m_AS_appendC) 65 = .ok (.dup_x1, 1) := by decide +kernel
theorem d_AS_appendC_66 : decode (mC m_AS_appendC) 66 = .ok (.iconst 1, 1) := by decide +kernel
theorem d_AS_appendC_67 : decode (mC m_AS_appendC) 67 = .ok (.iadd, 1) := by decide +kernel
theorem d_AS_appendC_68 : decode (mC m_AS_appendC) 68 = .ok (.putfield 79, 3) := by decide +kernel
theorem d_AS_appendC_71 : decode (mC m_AS_appendC) 71 = .ok (.iload_n 1, 1) := by decide +kernel
theorem d_AS_appendC_72 : decode (mC m_AS_appendC) 72 = .ok (.invokestatic 197, 3) := by decide +kernel
theorem d_AS_appendC_75 : decode (mC m_AS_appendC) 75 = .ok (.aload_n 0, 1) := by decide +kernel
theorem d_AS_appendC_76 : decode (mC m_AS_appendC) 76 = .ok (.areturn, 1) := by decide +kernel
theorem d_AS_ensure_0 : decode (mC m_AS_ensure) 0 = .ok (.aload_n 0, 1) := by decide +kernel
theorem d_AS_ensure_1 : decode (mC m_AS_ensure) 1 = .ok (.getfield 15, 3) := by decide +kernel
theorem d_AS_ensure_4 : decode (mC m_AS_ensure) 4 = .ok (.arraylength, 1) := by decide +kernel
theorem d_AS_ensure_5 : decode (mC m_AS_ensure) 5 = .ok (.aload_n 0, 1) := by decide +kernel
theorem d_AS_ensure_6 : decode (mC m_AS_ensure) 6 = .ok (.getfield 22, 3) := by decide +kernel
theorem d_AS_ensure_9 : decode (mC m_AS_ensure) 9 = .ok (.ishr, 1) := by decide +kernel
theorem d_AS_ensure_10 : decode (mC m_AS_ensure) 10 = .ok (.istore_n 2, 1) := by decide +kernel
theorem d_AS_ensure_11 : decode (mC m_AS_ensure) 11 = .ok (.iload_n 1, 1) := by decide +kernel
theorem d_AS_ensure_12 : decode (mC m_AS_ensure) 12 = .ok (.iload_n 2, 1) := by decide +kernel
theorem d_AS_ensure_13 : decode (mC m_AS_ensure) 13 = .ok (.isub, 1) := by decide +kernel
theorem d_AS_ensure_14 : decode (mC m_AS_ensure) 14 = .ok (.ifCond .le 24, 3) := by decide +kernel
theorem d_AS_ensure_17 : decode (mC m_AS_ensure) 17 = .ok (.aload_n 0, 1) := by decide +kernel
theorem d_AS_ensure_18 : decode (mC m_AS_ensure) 18 = .ok (.aload_n 0, 1) := by decide +kernel
theorem d_AS_ensure_19 : decode (mC m_AS_ensure) 19 = .ok (.getfield 15, 3) := by decide +kernel
theorem d_AS_ensure_22 : decode (mC m_AS_ensure) 22 = .ok (.aload_n 0, 1) := by decide +kernel
theorem d_AS_ensure_23 : decode (mC m_AS_ensure) 23 = .ok (.iload_n 1, 1) := by decide +kernel
theorem d_AS_ensure_24 : decode (mC m_AS_ensure) 24 = .ok (.invokevirtual 104, 3) := by decide +kernel
theorem d_AS_ensure_27 : decode (mC m_AS_ensure) 27 = .ok (.aload_n 0, 1) := by decide +kernel
theorem d_AS_ensure_28 : decode (mC m_AS_ensure) 28 = .ok (.getfield 22, 3) := by decide +kernel
theorem d_AS_ensure_31 : decode (mC m_AS_ensure) 31 = .ok (.ishl, 1) := by decide +kernel
theorem d_AS_ensure_32 : decode (mC m_AS_ensure) 32 = .ok (.invokestatic 108, 3) := by decide +kernel
theorem d_AS_ensure_35 : decode (mC m_AS_ensure) 35 = .ok (.putfield 15, 3) := by decide +kernel
theorem d_AS_ensure_38 : decode (mC m_AS_ensure) 38 = .ok (.return_, 1) := by decide +kernel
theorem d_AS_isLatin1_0 : decode (mC m_AS_isLatin1) 0 = .ok (.getstatic 18, 3) := by decide +kernel
theorem d_AS_isLatin1_3 : decode (mC m_AS_isLatin1) 3 = .ok (.ifCond .eq 14, 3) := by decide +kernel
theorem d_AS_isLatin1_6 : decode (mC m_AS_isLatin1) 6 = .ok (.aload_n 0, 1) := by decide +kernel
theorem d_AS_isLatin1_7 : decode (mC m_AS_isLatin1) 7 = .ok (.getfield 22, 3) := by decide +kernel
theorem d_AS_isLatin1_10 : decode (mC m_AS_isLatin1) 10 = .ok (.ifCond .ne 7, 3) := by decide +kernel
theorem d_AS_isLatin1_13 : decode (mC m_AS_isLatin1) 13 = .ok (.iconst 1, 1) := by decide +kernel
theorem d_AS_isLatin1_14 : decode (mC m_AS_isLatin1) 14 = .ok (.goto 4, 3) := by decide +kernel
theorem d_AS_isLatin1_17 : decode (mC m_AS_isLatin1) 17 = .ok (.iconst 0, 1) := by decide +kernel
theorem d_AS_isLatin1_18 : decode (mC m_AS_isLatin1) 18 = .ok (.ireturn, 1) := by decide +kernel
theorem d_IT_stringSize_0 : decode (mC m_IT_stringSize) 0 = .ok (.iconst 1, 1) := by decide +kernel
theorem d_IT_stringSize_1 : decode (mC m_IT_stringSize) 1 = .ok (.istore_n 1, 1) := by decide +kernel
theorem d_IT_stringSize_2 : decode (mC m_IT_stringSize) 2 = .ok (.iload_n 0, 1) := by decide +kernel
theorem d_IT_stringSize_3 : decode (mC m_IT_stringSize) 3 = .ok (.ifCond .lt 8, 3) := by decide +kernel
theorem d_IT_stringSize_6 : decode (mC m_IT_stringSize) 6 = .ok (.iconst 0, 1) := by decide +kernel
theorem d_IT_stringSize_7 : decode (mC m_IT_stringSize) 7 = .ok (.istore_n 1, 1) := by decide +kernel
theorem d_IT_stringSize_8 : decode (mC m_IT_stringSize) 8 = .ok (.iload_n 0, 1) := by decide +kernel
theorem d_IT_stringSize_9 : decode (mC m_IT_stringSize) 9 = .ok (.ineg, 1) := by decide +kernel
theorem d_IT_stringSize_10 : decode (mC m_IT_stringSize) 10 = .ok (.istore_n 0, 1) := by decide +kernel
theorem d_IT_stringSize_11 : decode (mC m_IT_stringSize) 11 = .ok (.bipush (-10), 2) := by decide +kernel
theorem d_IT_stringSize_13 : decode (mC m_IT_stringSize) 13 = .ok (.istore_n 2, 1) := by decide +kernel
theorem d_IT_stringSize_14 : decode (mC m_IT_stringSize) 14 = .ok (.iconst 1, 1) := by decide +kernel
theorem d_IT_stringSize_15 : decode (mC m_IT_stringSize) 15 = .ok (.istore_n 3, 1) := by decide +kernel
theorem d_IT_stringSize_16 : decode (mC m_IT_stringSize) 16 = .ok (.iload_n 3, 1) := by decide +kernel
theorem d_IT_stringSize_17 : decode (mC m_IT_stringSize) 17 = .ok (.bipush 10, 2) := by decide +kernel
theorem d_IT_stringSize_19 : decode (mC m_IT_stringSize) 19 = .ok (.if_icmp .ge 23, 3) := by decide +kernel
theorem d_IT_stringSize_22 : decode (mC m_IT_stringSize) 22 = .ok (.iload_n 0, 1) := by decide +kernel
theorem d_IT_stringSize_23 : decode (mC m_IT_stringSize) 23 = .ok (.iload_n 2, 1) := by decide +kernel
theorem d_IT_stringSize_24 : decode (mC m_IT_stringSize) 24 = .ok (.if_icmp .le 7, 3) := by decide +kernel
theorem d_IT_stringSize_27 : decode (mC m_IT_stringSize) 27 = .ok (.iload_n 3, 1) := by decide +kernel
theorem d_IT_stringSize_28 : decode (mC m_IT_stringSize) 28 = .ok (.iload_n 1, 1) := by decide +kernel
theorem d_IT_stringSize_29 : decode (mC m_IT_stringSize) 29 = .ok (.iadd, 1) := by decide +kernel
theorem d_IT_stringSize_30 : decode (mC m_IT_stringSize) 30 = .ok (.ireturn, 1) := by decide +kernel
theorem d_IT_stringSize_31 : decode (mC m_IT_stringSize) 31 = .ok (.bipush 10, 2) := by decide +kernel
theorem d_IT_stringSize_33 : decode (mC m_IT_stringSize) 33 = .ok (.iload_n 2, 1) := by decide +kernel
theorem d_IT_stringSize_34 : decode (mC m_IT_stringSize) 34 = .ok (.imul, 1) := by decide +kernel
theorem d_IT_stringSize_35 : decode (mC m_IT_stringSize) 35 = .ok (.istore_n 2, 1) := by decide +kernel
theorem d_IT_stringSize_36 : decode (mC m_IT_stringSize) 36 = .ok (.iinc 3 1, 3) := by decide +kernel
theorem d_IT_stringSize_39 : decode (mC m_IT_stringSize) 39 = .ok (.goto (-23), 3) := by decide +kernel
theorem d_IT_stringSize_42 : decode (mC m_IT_stringSize) 42 = .ok (.bipush 10, 2) := by decide +kernel
theorem d_IT_stringSize_44 : decode (mC m_IT_stringSize) 44 = .ok (.iload_n 1, 1) := by decide +kernel
theorem d_IT_stringSize_45 : decode (mC m_IT_stringSize) 45 = .ok (.iadd, 1) := by decide +kernel
theorem d_IT_stringSize_46 : decode (mC m_IT_stringSize) 46 = .ok (.ireturn, 1) := by decide +kernel
theorem d_IT_getChars_0 : decode (mC m_IT_getChars) 0 = .ok (.iload_n 1, 1) := by decide +kernel
theorem d_IT_getChars_1 : decode (mC m_IT_getChars) 1 = .ok (.istore 5, 2) := by decide +kernel
theorem d_IT_getChars_3 : decode (mC m_IT_getChars) 3 = .ok (.iload_n 0, 1) := by decide +kernel
theorem d_IT_getChars_4 : decode (mC m_IT_getChars) 4 = .ok (.ifCond .ge 7, 3) := by decide +kernel
theorem d_IT_getChars_7 : decode (mC m_IT_getChars) 7 = .ok (.iconst 1, 1) := by decide +kernel
theorem d_IT_getChars_8 : decode (mC m_IT_getChars) 8 = .ok (.goto 4, 3) := by decide +kernel
theorem d_IT_getChars_11 : decode (mC m_IT_getChars) 11 = .ok (.iconst 0, 1) := by decide +kernel
theorem d_IT_getChars_12 : decode (mC m_IT_getChars) 12 = .ok (.istore 6, 2) := by decide +kernel
theorem d_IT_getChars_14 : decode (mC m_IT_getChars) 14 = .ok (.iload 6, 2) := by decide +kernel
theorem d_IT_getChars_16 : decode (mC m_IT_getChars) 16 = .ok (.ifCond .ne 6, 3) := by decide +kernel
theorem d_IT_getChars_19 : decode (mC m_IT_getChars) 19 = .ok (.iload_n 0, 1) := by decide +kernel
theorem d_IT_getChars_20 : decode (mC m_IT_getChars) 20 = .ok (.ineg, 1) := by decide +kernel
theorem d_IT_getChars_21 : decode (mC m_IT_getChars) 21 = .ok (.istore_n 0, 1) := by decide +kernel
theorem d_IT_getChars_22 : decode (mC m_IT_getChars) 22 = .ok (.iload_n 0, 1) := by decide +kernel
theorem d_IT_getChars_23 : decode (mC m_IT_getChars) 23 = .ok (.bipush (-100), 2) := by decide +kernel
theorem d_IT_getChars_25 : decode (mC m_IT_getChars) 25 = .ok (.if_icmp .gt 47, 3) := by decide +kernel
theorem d_IT_getChars_28 : decode (mC m_IT_getChars) 28 = .ok (.iload_n 0, 1) := by decide +kernel
theorem d_IT_getChars_29 : decode (mC m_IT_getChars) 29 = .ok (.bipush 100, 2) := by decide +kernel
theorem d_IT_getChars_31 : decode (mC m_IT_getChars) 31 = .ok (.idiv, 1) := by decide +kernel
theorem d_IT_getChars_32 : decode (mC m_IT_getChars) 32 = .ok (.istore_n 3, 1) := by decide +kernel
theorem d_IT_getChars_33 : decode (mC m_IT_getChars) 33 = .ok (.iload_n 3, 1) := by decide +kernel
theorem d_IT_getChars_34 : decode (mC m_IT_getChars) 34 = .ok (.bipush 100, 2) := by decide +kernel
theorem d_IT_getChars_36 : decode (mC m_IT_getChars) 36 = .ok (.imul, 1) := by decide +kernel
theorem d_IT_getChars_37 : decode (mC m_IT_getChars) 37 = .ok (.iload_n 0, 1) := by decide +kernel
theorem d_IT_getChars_38 : decode (mC m_IT_getChars) 38 = .ok (.isub, 1) := by decide +kernel
theorem d_IT_getChars_39 : decode (mC m_IT_getChars) 39 = .ok (.istore 4, 2) := by decide +kernel
theorem d_IT_getChars_41 : decode (mC m_IT_getChars) 41 = .ok (.iload_n 3, 1) := by decide +kernel
theorem d_IT_getChars_42 : decode (mC m_IT_getChars) 42 = .ok (.istore_n 0, 1) := by decide +kernel
theorem d_IT_getChars_43 : decode (mC m_IT_getChars) 43 = .ok (.aload_n 2, 1) := by decide +kernel
theorem d_IT_getChars_44 : decode (mC m_IT_getChars) 44 = .ok (.iinc 5 (-1), 3) := by decide +kernel
theorem d_IT_getChars_47 : decode (mC m_IT_getChars) 47 = .ok (.iload 5, 2) := by decide +kernel
theorem d_IT_getChars_49 : decode (mC m_IT_getChars) 49 = .ok (.getstatic 83, 3) := by decide +kernel
theorem d_IT_getChars_52 : decode (mC m_IT_getChars) 52 = .ok (.iload 4, 2) := by decide +kernel
theorem d_IT_getChars_54 : decode (mC m_IT_getChars) 54 = .ok (.baload, 1) := by decide +kernel
theorem d_IT_getChars_55 : decode (mC m_IT_getChars) 55 = .ok (.bastore, 1) := by decide +kernel
theorem d_IT_getChars_56 : decode (mC m_IT_getChars) 56 = .ok (.aload_n 2, 1) := by decide +kernel
theorem d_IT_getChars_57 : decode (mC m_IT_getChars) 57 = .ok (.iinc 5 (-1), 3) := by decide +kernel
theorem d_IT_getChars_60 : decode (mC m_IT_getChars) 60 = .ok (.iload 5, 2) := by decide +kernel
theorem d_IT_getChars_62 : decode (mC m_IT_getChars) 62 = .ok (.getstatic 87, 3) := by decide +kernel
theorem d_IT_getChars_65 : decode (mC m_IT_getChars) 65 = .ok (.iload 4, 2) := by decide +kernel
theorem d_IT_getChars_67 : decode (mC m_IT_getChars) 67 = .ok (.baload, 1) := by decide +kernel
theorem d_IT_getChars_68 : decode (mC m_IT_getChars) 68 = .ok (.bastore, 1) := by decide +kernel
theorem d_IT_getChars_69 : decode (mC m_IT_getChars) 69 = .ok (.goto (-47), 3) := by decide +kernel
theorem d_IT_getChars_72 : decode (mC m_IT_getChars) 72 = .ok (.aload_n 2, 1) := by decide +kernel
theorem d_IT_getChars_73 : decode (mC m_IT_getChars) 73 = .ok (.iinc 5 (-1), 3) := by decide +kernel
theorem d_IT_getChars_76 : decode (mC m_IT_getChars) 76 = .ok (.iload 5, 2) := by decide +kernel
theorem d_IT_getChars_78 : decode (mC m_IT_getChars) 78 = .ok (.getstatic 83, 3) := by decide +kernel
theorem d_IT_getChars_81 : decode (mC m_IT_getChars) 81 = .ok (.iload_n 0, 1) := by decide +kernel
theorem d_IT_getChars_82 : decode (mC m_IT_getChars) 82 = .ok (.ineg, 1) := by decide +kernel
theorem d_IT_getChars_83 : decode (mC m_IT_getChars) 83 = .ok (.baload, 1) := by decide +kernel
theorem d_IT_getChars_84 : decode (mC m_IT_getChars) 84 = .ok (.bastore, 1) := by decide +kernel
theorem d_IT_getChars_85 : decode (mC m_IT_getChars) 85 = .ok (.iload_n 0, 1) := by decide +kernel
theorem d_IT_getChars_86 : decode (mC m_IT_getChars) 86 = .ok (.bipush (-9), 2) := by decide +kernel
theorem d_IT_getChars_88 : decode (mC m_IT_getChars) 88 = .ok (.if_icmp .ge 16, 3) := by decide +kernel
theorem d_IT_getChars_91 : decode (mC m_IT_getChars) 91 = .ok (.aload_n 2, 1) := by decide +kernel
theorem d_IT_getChars_92 : decode (mC m_IT_getChars) 92 = .ok (.iinc 5 (-1), 3) := by decide +kernel
theorem d_IT_getChars_95 : decode (mC m_IT_getChars) 95 = .ok (.iload 5, 2) := by decide +kernel
theorem d_IT_getChars_97 : decode (mC m_IT_getChars) 97 = .ok (.getstatic 87, 3) := by decide +kernel
theorem d_IT_getChars_100 : decode (mC m_IT_getChars) 100 = .ok (.iload_n 0, 1) := by decide +kernel
theorem d_IT_getChars_101 : decode (mC m_IT_getChars) 101 = .ok (.ineg, 1) := by decide +kernel
theorem d_IT_getChars_102 : decode (mC m_IT_getChars) 102 = .ok (.baload, 1) := by decide +kernel
theorem d_IT_getChars_103 : decode (mC m_IT_getChars) 103 = .ok (.bastore, 1) := by decide +kernel
theorem d_IT_getChars_104 : decode (mC m_IT_getChars) 104 = .ok (.iload 6, 2) := by decide +kernel
theorem d_IT_getChars_106 : decode (mC m_IT_getChars) 106 = .ok (.ifCond .eq 12, 3) := by decide +kernel
theorem d_IT_getChars_109 : decode (mC m_IT_getChars) 109 = .ok (.aload_n 2, 1) := by decide +kernel
theorem d_IT_getChars_110 : decode (mC m_IT_getChars) 110 = .ok (.iinc 5 (-1), 3) := by decide +kernel
theorem d_IT_getChars_113 : decode (mC m_IT_getChars) 113 = .ok (.iload 5, 2) := by decide +kernel
theorem d_IT_getChars_115 : decode (mC m_IT_getChars) 115 = .ok (.bipush 45, 2) := by decide +kernel
theorem d_IT_getChars_117 : decode (mC m_IT_getChars) 117 = .ok (.bastore, 1) := by decide +kernel
theorem d_IT_getChars_118 : decode (mC m_IT_getChars) 118 = .ok (.iload 5, 2) := by decide +kernel
theorem d_IT_getChars_120 : decode (mC m_IT_getChars) 120 = .ok (.ireturn, 1) := by decide +kernel
theorem d_SL_canEncode_0 : decode (mC m_SL_canEncode) 0 = .ok (.iload_n 0, 1) := by decide +kernel
theorem d_SL_canEncode_1 : decode (mC m_SL_canEncode) 1 = .ok (.sipush 255, 3) := by decide +kernel
theorem d_SL_canEncode_4 : decode (mC m_SL_canEncode) 4 = .ok (.if_icmp .gt 7, 3) := by decide +kernel
theorem d_SL_canEncode_7 : decode (mC m_SL_canEncode) 7 = .ok (.iconst 1, 1) := by decide +kernel
theorem d_SL_canEncode_8 : decode (mC m_SL_canEncode) 8 = .ok (.goto 4, 3) := by decide +kernel
theorem d_SL_canEncode_11 : decode (mC m_SL_canEncode) 11 = .ok (.iconst 0, 1) := by decide +kernel
theorem d_SL_canEncode_12 : decode (mC m_SL_canEncode) 12 = .ok (.ireturn, 1) := by decide +kernel
