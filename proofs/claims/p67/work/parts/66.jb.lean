/-! THE JDK: texts of any length: StringBuilder.append, toString; String.length, charAt -/
def m_ST_getBytes : Mt := (⟨"java/lang/String", "getBytes", "([BIB)V"⟩, prog_22_method_147_code, 4, (Option.none : Option Jvm.ClassFile.FieldType), [], 3, 65)
def m_AS_length : Mt := (⟨"java/lang/AbstractStringBuilder", "length", "()I"⟩, prog_12_method_6_code, 1, (Option.some Jvm.ClassFile.FieldType.int), [], 2, 45)
def m_SB_length : Mt := (⟨"java/lang/StringBuilder", "length", "()I"⟩, prog_23_method_93_code, 1, (Option.some Jvm.ClassFile.FieldType.int), [], 3, 65)
def m_AS_isLatin1 : Mt := (⟨"java/lang/AbstractStringBuilder", "isLatin1", "()Z"⟩, prog_12_method_68_code, 1, (Option.some Jvm.ClassFile.FieldType.boolean), [], 2, 45)
def m_AS_getValue : Mt := (⟨"java/lang/AbstractStringBuilder", "getValue", "()[B"⟩, prog_12_method_64_code, 1, (Option.some (Jvm.ClassFile.FieldType.array Jvm.ClassFile.FieldType.byte)), [], 2, 45)
def m_AP_newLength : Mt := (⟨"jdk/internal/util/ArraysSupport", "newLength", "(III)I"⟩, prog_29_method_27_code, 4, (Option.some Jvm.ClassFile.FieldType.int), [], 2, 45)
def m_AS_newCap : Mt := (⟨"java/lang/AbstractStringBuilder", "newCapacity", "(I)I"⟩, prog_12_method_10_code, 6, (Option.some Jvm.ClassFile.FieldType.int), [], 3, 68)
def m_AR_copyOf : Mt := (⟨"java/util/Arrays", "copyOf", "([BI)[B"⟩, prog_28_method_121_code, 3, (Option.some (Jvm.ClassFile.FieldType.array Jvm.ClassFile.FieldType.byte)), [], 2, 45)
def m_AS_ensure : Mt := (⟨"java/lang/AbstractStringBuilder", "ensureCapacityInternal", "(I)V"⟩, prog_12_method_9_code, 3, (Option.none : Option Jvm.ClassFile.FieldType), [], 4, 93)
def m_AS_inflIf : Mt := (⟨"java/lang/AbstractStringBuilder", "inflateIfNeededFor", "(Ljava/lang/String;)V"⟩, prog_12_method_71_code, 2, (Option.none : Option Jvm.ClassFile.FieldType), [], 3, 65)
def m_AS_putStr : Mt := (⟨"java/lang/AbstractStringBuilder", "putStringAt", "(ILjava/lang/String;)V"⟩, prog_12_method_73_code, 3, (Option.none : Option Jvm.ClassFile.FieldType), [], 4, 88)
def m_AS_appendS : Mt := (⟨"java/lang/AbstractStringBuilder", "append", "(Ljava/lang/String;)Ljava/lang/AbstractStringBuilder;"⟩, prog_12_method_22_code, 3, (Option.some (Jvm.ClassFile.FieldType.object "java/lang/AbstractStringBuilder")), [], 5, 115)
def m_SB_appendS : Mt := (⟨"java/lang/StringBuilder", "append", "(Ljava/lang/String;)Ljava/lang/StringBuilder;"⟩, prog_23_method_7_code, 2, (Option.some (Jvm.ClassFile.FieldType.object "java/lang/StringBuilder")), [], 6, 137)
def m_IT_getChars : Mt := (⟨"java/lang/Integer", "getChars", "(II[B)I"⟩, prog_18_method_12_code, 7, (Option.some Jvm.ClassFile.FieldType.int), [], 2, 45)
def m_AS_appendI : Mt := (⟨"java/lang/AbstractStringBuilder", "append", "(I)Ljava/lang/AbstractStringBuilder;"⟩, prog_12_method_32_code, 4, (Option.some (Jvm.ClassFile.FieldType.object "java/lang/AbstractStringBuilder")), [], 5, 115)
def m_SB_appendI : Mt := (⟨"java/lang/StringBuilder", "append", "(I)Ljava/lang/StringBuilder;"⟩, prog_23_method_15_code, 2, (Option.some (Jvm.ClassFile.FieldType.object "java/lang/StringBuilder")), [], 6, 138)
def m_AR_checkLength : Mt := (⟨"java/util/Arrays", "checkLength", "(II)V"⟩, prog_28_method_131_code, 2, (Option.none : Option Jvm.ClassFile.FieldType), [], 2, 45)
def m_AR_copyRangeB : Mt := (⟨"java/util/Arrays", "copyOfRangeByte", "([BII)[B"⟩, prog_28_method_133_code, 5, (Option.some (Jvm.ClassFile.FieldType.array Jvm.ClassFile.FieldType.byte)), [], 3, 66)
def m_AR_copyRange : Mt := (⟨"java/util/Arrays", "copyOfRange", "([BII)[B"⟩, prog_28_method_132_code, 3, (Option.some (Jvm.ClassFile.FieldType.array Jvm.ClassFile.FieldType.byte)), [], 4, 90)
def m_ST_initA : Mt := (⟨"java/lang/String", "<init>", "(Ljava/lang/AbstractStringBuilder;Ljava/lang/Void;)V"⟩, prog_22_method_150_code, 5, (Option.none : Option Jvm.ClassFile.FieldType), [], 5, 112)
def m_ST_initB : Mt := (⟨"java/lang/String", "<init>", "(Ljava/lang/StringBuilder;)V"⟩, prog_22_method_53_code, 2, (Option.none : Option Jvm.ClassFile.FieldType), [], 6, 136)
def m_SB_toString : Mt := (⟨"java/lang/StringBuilder", "toString", "()Ljava/lang/String;"⟩, prog_23_method_42_code, 1, (Option.some (Jvm.ClassFile.FieldType.object "java/lang/String")), [], 7, 157)
theorem mv_ST_getBytes : MV m_ST_getBytes 3 := ⟨rfl, tg_3 124 rfl rfl, tg_3 125 rfl rfl, tg_1 10 rfl rfl, tg_3 126 rfl rfl, ⟨by decide, by decide, by decide +kernel⟩⟩
theorem mp_AS_length : MP m_AS_length 0 := ⟨rfl, tg_3 174 rfl rfl, tg_1 8 rfl rfl, tg_3 180 rfl rfl, ⟨by decide, by decide, by decide +kernel⟩⟩
theorem mu_AS_length : MU m_AS_length 0 := ⟨rfl, tg_3 174 rfl rfl, tg_3 175 rfl rfl, tg_2 58 rfl rfl, tg_1 8 rfl rfl, tg_3 180 rfl rfl, ⟨by decide, by decide +kernel⟩⟩
theorem mp_AS_isLatin1 : MP m_AS_isLatin1 0 := ⟨rfl, tg_3 75 rfl rfl, tg_1 8 rfl rfl, tg_3 78 rfl rfl, ⟨by decide, by decide, by decide +kernel⟩⟩
theorem mu_AS_isLatin1 : MU m_AS_isLatin1 0 := ⟨rfl, tg_3 75 rfl rfl, tg_3 76 rfl rfl, tg_2 58 rfl rfl, tg_1 8 rfl rfl, tg_3 78 rfl rfl, ⟨by decide, by decide +kernel⟩⟩
theorem sel_AS_isLatin1 {E : En} {M : Mt} {p : Program} {R : Room} {s : State} {m : MethodId} {args : Array Value} {meth : Method} {c : Code} {H : Heap} {locs : List Loc} (C : Cx E M p R s m args meth c H locs) : (Cond.selects "java/lang/StringBuilder" (mY m_AS_isLatin1) (mY m_AS_isLatin1)).before args s = true := C.hts _ (tg_3 77 rfl rfl)
theorem mp_AS_getValue : MP m_AS_getValue 0 := ⟨rfl, tg_3 169 rfl rfl, tg_1 8 rfl rfl, tg_3 172 rfl rfl, ⟨by decide, by decide, by decide +kernel⟩⟩
theorem mu_AS_getValue : MU m_AS_getValue 0 := ⟨rfl, tg_3 169 rfl rfl, tg_3 170 rfl rfl, tg_2 58 rfl rfl, tg_1 8 rfl rfl, tg_3 172 rfl rfl, ⟨by decide, by decide +kernel⟩⟩
theorem sel_AS_getValue {E : En} {M : Mt} {p : Program} {R : Room} {s : State} {m : MethodId} {args : Array Value} {meth : Method} {c : Code} {H : Heap} {locs : List Loc} (C : Cx E M p R s m args meth c H locs) : (Cond.selects "java/lang/StringBuilder" (mY m_AS_getValue) (mY m_AS_getValue)).before args s = true := C.hts _ (tg_3 171 rfl rfl)
theorem ms_AP_newLength : MS m_AP_newLength 3 := ⟨rfl, tg_3 48 rfl rfl, tg_1 15 rfl rfl, tg_3 49 rfl rfl, ⟨by decide, by decide, by decide +kernel⟩⟩
theorem mp_AS_newCap : MP m_AS_newCap 1 := ⟨rfl, tg_3 45 rfl rfl, tg_1 8 rfl rfl, tg_3 46 rfl rfl, ⟨by decide, by decide, by decide +kernel⟩⟩
theorem mu_AS_newCap : MU m_AS_newCap 1 := ⟨rfl, tg_3 45 rfl rfl, tg_6 91 rfl rfl, tg_2 58 rfl rfl, tg_1 8 rfl rfl, tg_3 46 rfl rfl, ⟨by decide, by decide +kernel⟩⟩
theorem sel_AS_newCap {E : En} {M : Mt} {p : Program} {R : Room} {s : State} {m : MethodId} {args : Array Value} {meth : Method} {c : Code} {H : Heap} {locs : List Loc} (C : Cx E M p R s m args meth c H locs) : (Cond.selects "java/lang/StringBuilder" (mY m_AS_newCap) (mY m_AS_newCap)).before args s = true := C.hts _ (selP_in (y := yN) (by decide))
theorem ms_AR_copyOf : MS m_AR_copyOf 2 := ⟨rfl, tg_3 59 rfl rfl, tg_1 17 rfl rfl, tg_3 60 rfl rfl, ⟨by decide, by decide, by decide +kernel⟩⟩
theorem mp_AS_ensure : MP m_AS_ensure 1 := ⟨rfl, tg_3 41 rfl rfl, tg_1 8 rfl rfl, tg_3 42 rfl rfl, ⟨by decide, by decide, by decide +kernel⟩⟩
theorem mu_AS_ensure : MU m_AS_ensure 1 := ⟨rfl, tg_3 41 rfl rfl, tg_6 90 rfl rfl, tg_2 58 rfl rfl, tg_1 8 rfl rfl, tg_3 42 rfl rfl, ⟨by decide, by decide +kernel⟩⟩
theorem sel_AS_ensure {E : En} {M : Mt} {p : Program} {R : Room} {s : State} {m : MethodId} {args : Array Value} {meth : Method} {c : Code} {H : Heap} {locs : List Loc} (C : Cx E M p R s m args meth c H locs) : (Cond.selects "java/lang/StringBuilder" (mY m_AS_ensure) (mY m_AS_ensure)).before args s = true := C.hts _ (selP_in (y := yE) (by decide))
theorem mp_AS_inflIf : MP m_AS_inflIf 1 := ⟨rfl, tg_3 101 rfl rfl, tg_1 8 rfl rfl, tg_3 102 rfl rfl, ⟨by decide, by decide, by decide +kernel⟩⟩
theorem mu_AS_inflIf : MU m_AS_inflIf 1 := ⟨rfl, tg_3 101 rfl rfl, tg_6 93 rfl rfl, tg_2 58 rfl rfl, tg_1 8 rfl rfl, tg_3 102 rfl rfl, ⟨by decide, by decide +kernel⟩⟩
theorem sel_AS_inflIf {E : En} {M : Mt} {p : Program} {R : Room} {s : State} {m : MethodId} {args : Array Value} {meth : Method} {c : Code} {H : Heap} {locs : List Loc} (C : Cx E M p R s m args meth c H locs) : (Cond.selects "java/lang/StringBuilder" (mY m_AS_inflIf) (mY m_AS_inflIf)).before args s = true := C.hts _ (selP_in (y := yF) (by decide))
theorem mp_AS_putStr : MP m_AS_putStr 2 := ⟨rfl, tg_3 97 rfl rfl, tg_1 8 rfl rfl, tg_3 98 rfl rfl, ⟨by decide, by decide, by decide +kernel⟩⟩
theorem mu_AS_putStr : MU m_AS_putStr 2 := ⟨rfl, tg_3 97 rfl rfl, tg_6 92 rfl rfl, tg_2 58 rfl rfl, tg_1 8 rfl rfl, tg_3 98 rfl rfl, ⟨by decide, by decide +kernel⟩⟩
theorem sel_AS_putStr {E : En} {M : Mt} {p : Program} {R : Room} {s : State} {m : MethodId} {args : Array Value} {meth : Method} {c : Code} {H : Heap} {locs : List Loc} (C : Cx E M p R s m args meth c H locs) : (Cond.selects "java/lang/StringBuilder" (mY m_AS_putStr) (mY m_AS_putStr)).before args s = true := C.hts _ (selP_in (y := yP) (by decide))
theorem mp_AS_appendS : MP m_AS_appendS 1 := ⟨rfl, tg_3 33 rfl rfl, tg_1 8 rfl rfl, tg_3 34 rfl rfl, ⟨by decide, by decide, by decide +kernel⟩⟩
theorem mu_AS_appendS : MU m_AS_appendS 1 := ⟨rfl, tg_3 33 rfl rfl, tg_6 88 rfl rfl, tg_2 58 rfl rfl, tg_1 8 rfl rfl, tg_3 34 rfl rfl, ⟨by decide, by decide +kernel⟩⟩
theorem mv_SB_appendS : MV m_SB_appendS 1 := ⟨rfl, tg_3 29 rfl rfl, tg_3 30 rfl rfl, tg_1 9 rfl rfl, tg_3 31 rfl rfl, ⟨by decide, by decide, by decide +kernel⟩⟩
theorem ms_IT_stringSize : MS m_IT_stringSize 1 := ⟨rfl, tg_3 138 rfl rfl, tg_1 20 rfl rfl, tg_3 139 rfl rfl, ⟨by decide, by decide, by decide +kernel⟩⟩
theorem ms_IT_getChars : MS m_IT_getChars 3 := ⟨rfl, tg_3 141 rfl rfl, tg_1 20 rfl rfl, tg_3 142 rfl rfl, ⟨by decide, by decide, by decide +kernel⟩⟩
theorem mp_AS_appendI : MP m_AS_appendI 1 := ⟨rfl, tg_3 135 rfl rfl, tg_1 8 rfl rfl, tg_3 136 rfl rfl, ⟨by decide, by decide, by decide +kernel⟩⟩
theorem mu_AS_appendI : MU m_AS_appendI 1 := ⟨rfl, tg_3 135 rfl rfl, tg_6 95 rfl rfl, tg_2 58 rfl rfl, tg_1 8 rfl rfl, tg_3 136 rfl rfl, ⟨by decide, by decide +kernel⟩⟩
theorem mv_SB_appendI : MV m_SB_appendI 1 := ⟨rfl, tg_3 131 rfl rfl, tg_3 132 rfl rfl, tg_1 9 rfl rfl, tg_3 133 rfl rfl, ⟨by decide, by decide, by decide +kernel⟩⟩
theorem ms_AR_checkLength : MS m_AR_checkLength 2 := ⟨rfl, tg_3 189 rfl rfl, tg_1 17 rfl rfl, tg_3 190 rfl rfl, ⟨by decide, by decide, by decide +kernel⟩⟩
theorem ms_AR_copyRangeB : MS m_AR_copyRangeB 3 := ⟨rfl, tg_3 186 rfl rfl, tg_1 17 rfl rfl, tg_3 187 rfl rfl, ⟨by decide, by decide, by decide +kernel⟩⟩
theorem ms_AR_copyRange : MS m_AR_copyRange 3 := ⟨rfl, tg_3 183 rfl rfl, tg_1 17 rfl rfl, tg_3 184 rfl rfl, ⟨by decide, by decide, by decide +kernel⟩⟩
theorem mi_ST_initA : MI m_ST_initA 2 := ⟨rfl, rfl, rfl, tg_3 165 rfl rfl, tg_1 10 rfl rfl, tg_3 166 rfl rfl, ⟨by decide, by decide, by decide +kernel⟩⟩
theorem mi_ST_initB : MI m_ST_initB 1 := ⟨rfl, rfl, rfl, tg_3 162 rfl rfl, tg_1 10 rfl rfl, tg_3 163 rfl rfl, ⟨by decide, by decide, by decide +kernel⟩⟩
theorem mv_SB_toString : MV m_SB_toString 0 := ⟨rfl, tg_3 156 rfl rfl, tg_3 157 rfl rfl, tg_1 9 rfl rfl, tg_3 158 rfl rfl, ⟨by decide, by decide, by decide +kernel⟩⟩
theorem fl_ST_9 : FLk "java/lang/String" 9 10 0 := ⟨_, rfl, by decide, tg_3 201 rfl rfl⟩
theorem fl_ST_15 : FLk "java/lang/String" 15 10 1 := ⟨_, rfl, by decide, tg_3 202 rfl rfl⟩
theorem st_ST_getBytes_335 : ST m_ST_getBytes 335 m_ST_coder := ⟨tg_2 74 rfl rfl, by decide, by decide⟩
theorem ac_ST_getBytes_212 : AcW m_ST_getBytes 212 := ⟨tg_3 127 rfl rfl, tg_3 73 rfl rfl, tg_3 72 rfl rfl, tg_1 18 rfl rfl, by decide, by decide⟩
theorem fl_AS_79 : FLk "java/lang/AbstractStringBuilder" 79 8 2 := ⟨_, rfl, by decide, tg_2 49 rfl rfl⟩
theorem st_SB_length_343 : ST m_SB_length 343 m_AS_length := ⟨tg_3 179 rfl rfl, by decide, by decide⟩
theorem mm_AP_newLength_194 : MM m_AP_newLength 194 Lib.Math.max.name Lib.Math.max.code 2 := ⟨tg_3 50 rfl rfl, tg_3 51 rfl rfl, tg_1 16 rfl rfl, tg_3 52 rfl rfl, by decide, by decide⟩
theorem co_AP_200 : Cond.constant "jdk/internal/util/ArraysSupport" 200 (2147483639) ∈ tG := tg_3 53 rfl rfl
theorem st_AS_newCap_114 : ST m_AS_newCap 114 m_AP_newLength := ⟨tg_3 47 rfl rfl, by decide, by decide⟩
theorem co_AS_39 : Cond.constant "java/lang/AbstractStringBuilder" 39 (2147483647) ∈ tG := tg_3 57 rfl rfl
theorem mm_AR_copyOf_304 : MM m_AR_copyOf 304 Lib.Math.min.name Lib.Math.min.code 2 := ⟨tg_3 68 rfl rfl, tg_3 69 rfl rfl, tg_1 16 rfl rfl, tg_3 70 rfl rfl, by decide, by decide⟩
theorem ac_AR_copyOf_150 : AcW m_AR_copyOf 150 := ⟨tg_3 71 rfl rfl, tg_3 73 rfl rfl, tg_3 72 rfl rfl, tg_1 18 rfl rfl, by decide, by decide⟩
theorem st_AS_ensure_104 : ST m_AS_ensure 104 m_AS_newCap := ⟨tg_3 43 rfl rfl, by decide, by decide⟩
theorem st_AS_ensure_108 : ST m_AS_ensure 108 m_AR_copyOf := ⟨tg_3 58 rfl rfl, by decide, by decide⟩
theorem st_AS_inflIf_40 : ST m_AS_inflIf 40 m_ST_coder := ⟨tg_3 103 rfl rfl, by decide, by decide⟩
theorem st_AS_putStr_397 : ST m_AS_putStr 397 m_AS_inflIf := ⟨tg_3 99 rfl rfl, by decide, by decide⟩
theorem st_AS_putStr_399 : ST m_AS_putStr 399 m_ST_getBytes := ⟨tg_3 123 rfl rfl, by decide, by decide⟩
theorem st_AS_appendS_32 : ST m_AS_appendS 32 m_ST_length := ⟨tg_3 94 rfl rfl, by decide, by decide⟩
theorem st_AS_appendS_100 : ST m_AS_appendS 100 m_AS_ensure := ⟨tg_3 39 rfl rfl, by decide, by decide⟩
theorem st_AS_appendS_208 : ST m_AS_appendS 208 m_AS_putStr := ⟨tg_3 95 rfl rfl, by decide, by decide⟩
theorem st_SB_appendS_29 : ST m_SB_appendS 29 m_AS_appendS := ⟨tg_3 32 rfl rfl, by decide, by decide⟩
theorem st_AS_appendI_245 : ST m_AS_appendI 245 m_IT_stringSize := ⟨tg_3 137 rfl rfl, by decide, by decide⟩
theorem st_AS_appendI_100 : ST m_AS_appendI 100 m_AS_ensure := ⟨tg_3 39 rfl rfl, by decide, by decide⟩
theorem st_AS_appendI_83 : ST m_AS_appendI 83 m_AS_isLatin1 := ⟨tg_3 74 rfl rfl, by decide, by decide⟩
theorem st_AS_appendI_248 : ST m_AS_appendI 248 m_IT_getChars := ⟨tg_3 140 rfl rfl, by decide, by decide⟩
theorem st_SB_appendI_53 : ST m_SB_appendI 53 m_AS_appendI := ⟨tg_3 134 rfl rfl, by decide, by decide⟩
theorem st_AR_copyRangeB_343 : ST m_AR_copyRangeB 343 m_AR_checkLength := ⟨tg_3 188 rfl rfl, by decide, by decide⟩
theorem mm_AR_copyRangeB_304 : MM m_AR_copyRangeB 304 Lib.Math.min.name Lib.Math.min.code 2 := ⟨tg_3 68 rfl rfl, tg_3 69 rfl rfl, tg_1 16 rfl rfl, tg_3 70 rfl rfl, by decide, by decide⟩
theorem ac_AR_copyRangeB_150 : AcW m_AR_copyRangeB 150 := ⟨tg_3 71 rfl rfl, tg_3 73 rfl rfl, tg_3 72 rfl rfl, tg_1 18 rfl rfl, by decide, by decide⟩
theorem st_AR_copyRange_339 : ST m_AR_copyRange 339 m_AR_copyRangeB := ⟨tg_3 185 rfl rfl, by decide, by decide⟩
theorem oi_ST_initA : Cond.methodLink (mY m_ST_initA).cls 1 objectInit ∈ tG ∧ Cond.instanceMethod objectInit ∈ tG ∧ Cond.code objectInit ⟨#[0xb1]⟩ 1 none ∈ tG := ⟨tg_3 167 rfl rfl, tg_1 34 rfl rfl, tg_1 35 rfl rfl⟩
theorem st_ST_initA_552 : ST m_ST_initA 552 m_AS_getValue := ⟨tg_3 168 rfl rfl, by decide, by decide⟩
theorem st_ST_initA_549 : ST m_ST_initA 549 m_AS_length := ⟨tg_3 173 rfl rfl, by decide, by decide⟩
theorem st_ST_initA_1047 : ST m_ST_initA 1047 m_AS_isLatin1 := ⟨tg_3 181 rfl rfl, by decide, by decide⟩
theorem st_ST_initA_54 : ST m_ST_initA 54 m_AR_copyRange := ⟨tg_3 182 rfl rfl, by decide, by decide⟩
theorem fl_ST_1048 : FLk "java/lang/String" 1048 8 3 := ⟨_, rfl, by decide, tg_2 48 rfl rfl⟩
theorem st_ST_initB_489 : ST m_ST_initB 489 m_ST_initA := ⟨tg_3 164 rfl rfl, by decide, by decide⟩
theorem cl_SB_toString_18 : CLk "java/lang/StringBuilder" 18 10 := ⟨_, rfl, tg_3 159 rfl rfl, tg_3 160 rfl rfl, tg_1 10 rfl rfl⟩
theorem st_SB_toString_137 : ST m_SB_toString 137 m_ST_initB := ⟨tg_3 161 rfl rfl, by decide, by decide⟩
theorem d_ST_getBytes_0 : decode (mC m_ST_getBytes) 0 = .ok (.aload_n 0, 1) := by decide +kernel
theorem d_ST_getBytes_1 : decode (mC m_ST_getBytes) 1 = .ok (.invokevirtual 335, 3) := by decide +kernel
theorem d_ST_getBytes_4 : decode (mC m_ST_getBytes) 4 = .ok (.iload_n 3, 1) := by decide +kernel
theorem d_ST_getBytes_5 : decode (mC m_ST_getBytes) 5 = .ok (.if_icmp .ne 23, 3) := by decide +kernel
theorem d_ST_getBytes_8 : decode (mC m_ST_getBytes) 8 = .ok (.aload_n 0, 1) := by decide +kernel
theorem d_ST_getBytes_9 : decode (mC m_ST_getBytes) 9 = .ok (.getfield 9, 3) := by decide +kernel
theorem d_ST_getBytes_12 : decode (mC m_ST_getBytes) 12 = .ok (.iconst 0, 1) := by decide +kernel
theorem d_ST_getBytes_13 : decode (mC m_ST_getBytes) 13 = .ok (.aload_n 1, 1) := by decide +kernel
theorem d_ST_getBytes_14 : decode (mC m_ST_getBytes) 14 = .ok (.iload_n 2, 1) := by decide +kernel
theorem d_ST_getBytes_15 : decode (mC m_ST_getBytes) 15 = .ok (.iload_n 3, 1) := by decide +kernel
theorem d_ST_getBytes_16 : decode (mC m_ST_getBytes) 16 = .ok (.ishl, 1) := by decide +kernel
theorem d_ST_getBytes_17 : decode (mC m_ST_getBytes) 17 = .ok (.aload_n 0, 1) := by decide +kernel
theorem d_ST_getBytes_18 : decode (mC m_ST_getBytes) 18 = .ok (.getfield 9, 3) := by decide +kernel
theorem d_ST_getBytes_21 : decode (mC m_ST_getBytes) 21 = .ok (.arraylength, 1) := by decide +kernel
theorem d_ST_getBytes_22 : decode (mC m_ST_getBytes) 22 = .ok (.invokestatic 212, 3) := by decide +kernel
theorem d_ST_getBytes_25 : decode (mC m_ST_getBytes) 25 = .ok (.goto 18, 3) := by decide +kernel
theorem d_ST_getBytes_28 : decode (mC m_ST_getBytes) 28 = .ok (.aload_n 0, 1) := by decide +kernel
theorem d_ST_getBytes_29 : decode (mC m_ST_getBytes) 29 = .ok (.getfield 9, 3) := by decide +kernel
theorem d_ST_getBytes_32 : decode (mC m_ST_getBytes) 32 = .ok (.iconst 0, 1) := by decide +kernel
theorem d_ST_getBytes_33 : decode (mC m_ST_getBytes) 33 = .ok (.aload_n 1, 1) := by decide +kernel
theorem d_ST_getBytes_34 : decode (mC m_ST_getBytes) 34 = .ok (.iload_n 2, 1) := by decide +kernel
theorem d_ST_getBytes_35 : decode (mC m_ST_getBytes) 35 = .ok (.aload_n 0, 1) := by decide +kernel
theorem d_ST_getBytes_36 : decode (mC m_ST_getBytes) 36 = .ok (.getfield 9, 3) := by decide +kernel
theorem d_ST_getBytes_39 : decode (mC m_ST_getBytes) 39 = .ok (.arraylength, 1) := by decide +kernel
theorem d_ST_getBytes_40 : decode (mC m_ST_getBytes) 40 = .ok (.invokestatic 106, 3) := by decide +kernel
theorem d_ST_getBytes_43 : decode (mC m_ST_getBytes) 43 = .ok (.return_, 1) := by decide +kernel
theorem d_AS_length_0 : decode (mC m_AS_length) 0 = .ok (.aload_n 0, 1) := by decide +kernel
theorem d_AS_length_1 : decode (mC m_AS_length) 1 = .ok (.getfield 79, 3) := by decide +kernel
theorem d_AS_length_4 : decode (mC m_AS_length) 4 = .ok (.ireturn, 1) := by decide +kernel
theorem d_SB_length_0 : decode (mC m_SB_length) 0 = .ok (.aload_n 0, 1) := by decide +kernel
theorem d_SB_length_1 : decode (mC m_SB_length) 1 = .ok (.invokespecial 343, 3) := by decide +kernel
theorem d_SB_length_4 : decode (mC m_SB_length) 4 = .ok (.ireturn, 1) := by decide +kernel
theorem d_AS_isLatin1_0 : decode (mC m_AS_isLatin1) 0 = .ok (.getstatic 18, 3) := by decide +kernel
theorem d_AS_isLatin1_3 : decode (mC m_AS_isLatin1) 3 = .ok (.ifCond .eq 14, 3) := by decide +kernel
theorem d_AS_isLatin1_6 : decode (mC m_AS_isLatin1) 6 = .ok (.aload_n 0, 1) := by decide +kernel
theorem d_AS_isLatin1_7 : decode (mC m_AS_isLatin1) 7 = .ok (.getfield 22, 3) := by decide +kernel
theorem d_AS_isLatin1_10 : decode (mC m_AS_isLatin1) 10 = .ok (.ifCond .ne 7, 3) := by decide +kernel
theorem d_AS_isLatin1_13 : decode (mC m_AS_isLatin1) 13 = .ok (.iconst 1, 1) := by decide +kernel
theorem d_AS_isLatin1_14 : decode (mC m_AS_isLatin1) 14 = .ok (.goto 4, 3) := by decide +kernel
theorem d_AS_isLatin1_17 : decode (mC m_AS_isLatin1) 17 = .ok (.iconst 0, 1) := by decide +kernel
theorem d_AS_isLatin1_18 : decode (mC m_AS_isLatin1) 18 = .ok (.ireturn, 1) := by decide +kernel
theorem d_AS_getValue_0 : decode (mC m_AS_getValue) 0 = .ok (.aload_n 0, 1) := by decide +kernel
theorem d_AS_getValue_1 : decode (mC m_AS_getValue) 1 = .ok (.getfield 15, 3) := by decide +kernel
theorem d_AS_getValue_4 : decode (mC m_AS_getValue) 4 = .ok (.areturn, 1) := by decide +kernel
theorem d_AP_newLength_0 : decode (mC m_AP_newLength) 0 = .ok (.iload_n 0, 1) := by decide +kernel
theorem d_AP_newLength_1 : decode (mC m_AP_newLength) 1 = .ok (.iload_n 1, 1) := by decide +kernel
theorem d_AP_newLength_2 : decode (mC m_AP_newLength) 2 = .ok (.iload_n 2, 1) := by decide +kernel
theorem d_AP_newLength_3 : decode (mC m_AP_newLength) 3 = .ok (.invokestatic 194, 3) := by decide +kernel
theorem d_AP_newLength_6 : decode (mC m_AP_newLength) 6 = .ok (.iadd, 1) := by decide +kernel
theorem d_AP_newLength_7 : decode (mC m_AP_newLength) 7 = .ok (.istore_n 3, 1) := by decide +kernel
theorem d_AP_newLength_8 : decode (mC m_AP_newLength) 8 = .ok (.iconst 0, 1) := by decide +kernel
theorem d_AP_newLength_9 : decode (mC m_AP_newLength) 9 = .ok (.iload_n 3, 1) := by decide +kernel
theorem d_AP_newLength_10 : decode (mC m_AP_newLength) 10 = .ok (.if_icmp .ge 11, 3) := by decide +kernel
theorem d_AP_newLength_13 : decode (mC m_AP_newLength) 13 = .ok (.iload_n 3, 1) := by decide +kernel
theorem d_AP_newLength_14 : decode (mC m_AP_newLength) 14 = .ok (.ldc 200, 2) := by decide +kernel
theorem d_AP_newLength_16 : decode (mC m_AP_newLength) 16 = .ok (.if_icmp .gt 5, 3) := by decide +kernel
theorem d_AP_newLength_19 : decode (mC m_AP_newLength) 19 = .ok (.iload_n 3, 1) := by decide +kernel
theorem d_AP_newLength_20 : decode (mC m_AP_newLength) 20 = .ok (.ireturn, 1) := by decide +kernel
theorem d_AP_newLength_21 : decode (mC m_AP_newLength) 21 = .ok (.iload_n 0, 1) := by decide +kernel
theorem d_AP_newLength_22 : decode (mC m_AP_newLength) 22 = .ok (.iload_n 1, 1) := by decide +kernel
theorem d_AP_newLength_23 : decode (mC m_AP_newLength) 23 = .ok (.invokestatic 201, 3) := by decide +kernel
theorem d_AP_newLength_26 : decode (mC m_AP_newLength) 26 = .ok (.ireturn, 1) := by decide +kernel
theorem d_AS_newCap_0 : decode (mC m_AS_newCap) 0 = .ok (.aload_n 0, 1) := by decide +kernel
theorem d_AS_newCap_1 : decode (mC m_AS_newCap) 1 = .ok (.getfield 15, 3) := by decide +kernel
theorem d_AS_newCap_4 : decode (mC m_AS_newCap) 4 = .ok (.arraylength, 1) := by decide +kernel
theorem d_AS_newCap_5 : decode (mC m_AS_newCap) 5 = .ok (.istore_n 2, 1) := by decide +kernel
theorem d_AS_newCap_6 : decode (mC m_AS_newCap) 6 = .ok (.iload_n 1, 1) := by decide +kernel
theorem d_AS_newCap_7 : decode (mC m_AS_newCap) 7 = .ok (.aload_n 0, 1) := by decide +kernel
theorem d_AS_newCap_8 : decode (mC m_AS_newCap) 8 = .ok (.getfield 22, 3) := by decide +kernel
theorem d_AS_newCap_11 : decode (mC m_AS_newCap) 11 = .ok (.ishl, 1) := by decide +kernel
theorem d_AS_newCap_12 : decode (mC m_AS_newCap) 12 = .ok (.istore_n 3, 1) := by decide +kernel
theorem d_AS_newCap_13 : decode (mC m_AS_newCap) 13 = .ok (.iload_n 3, 1) := by decide +kernel
theorem d_AS_newCap_14 : decode (mC m_AS_newCap) 14 = .ok (.iload_n 2, 1) := by decide +kernel
theorem d_AS_newCap_15 : decode (mC m_AS_newCap) 15 = .ok (.isub, 1) := by decide +kernel
theorem d_AS_newCap_16 : decode (mC m_AS_newCap) 16 = .ok (.istore 4, 2) := by decide +kernel
theorem d_AS_newCap_18 : decode (mC m_AS_newCap) 18 = .ok (.iload_n 2, 1) := by decide +kernel
theorem d_AS_newCap_19 : decode (mC m_AS_newCap) 19 = .ok (.iload 4, 2) := by decide +kernel
theorem d_AS_newCap_21 : decode (mC m_AS_newCap) 21 = .ok (.iload_n 2, 1) := by decide +kernel
theorem d_AS_newCap_22 : decode (mC m_AS_newCap) 22 = .ok (.iconst 2, 1) := by decide +kernel
theorem d_AS_newCap_23 : decode (mC m_AS_newCap) 23 = .ok (.aload_n 0, 1) := by decide +kernel
theorem d_AS_newCap_24 : decode (mC m_AS_newCap) 24 = .ok (.getfield 22, 3) := by decide +kernel
theorem d_AS_newCap_27 : decode (mC m_AS_newCap) 27 = .ok (.ishl, 1) := by decide +kernel
theorem d_AS_newCap_28 : decode (mC m_AS_newCap) 28 = .ok (.iadd, 1) := by decide +kernel
theorem d_AS_newCap_29 : decode (mC m_AS_newCap) 29 = .ok (.invokestatic 114, 3) := by decide +kernel
theorem d_AS_newCap_32 : decode (mC m_AS_newCap) 32 = .ok (.istore 5, 2) := by decide +kernel
theorem d_AS_newCap_34 : decode (mC m_AS_newCap) 34 = .ok (.iload 5, 2) := by decide +kernel
theorem d_AS_newCap_36 : decode (mC m_AS_newCap) 36 = .ok (.ldc 39, 2) := by decide +kernel
theorem d_AS_newCap_38 : decode (mC m_AS_newCap) 38 = .ok (.if_icmp .ne 13, 3) := by decide +kernel
theorem d_AS_newCap_41 : decode (mC m_AS_newCap) 41 = .ok (.new 120, 3) := by decide +kernel
theorem d_AS_newCap_44 : decode (mC m_AS_newCap) 44 = .ok (.dup, 1) := by decide +kernel
theorem d_AS_newCap_45 : decode (mC m_AS_newCap) 45 = .ok (.ldc 122, 2) := by decide +kernel
theorem d_AS_newCap_47 : decode (mC m_AS_newCap) 47 = .ok (.invokespecial 124, 3) := by decide +kernel
theorem d_AS_newCap_50 : decode (mC m_AS_newCap) 50 = .ok (.athrow, 1) := by decide +kernel
theorem d_AS_newCap_51 : decode (mC m_AS_newCap) 51 = .ok (.iload 5, 2) := by decide +kernel
theorem d_AS_newCap_53 : decode (mC m_AS_newCap) 53 = .ok (.aload_n 0, 1) := by decide +kernel
theorem d_AS_newCap_54 : decode (mC m_AS_newCap) 54 = .ok (.getfield 22, 3) := by decide +kernel
theorem d_AS_newCap_57 : decode (mC m_AS_newCap) 57 = .ok (.ishr, 1) := by decide +kernel
theorem d_AS_newCap_58 : decode (mC m_AS_newCap) 58 = .ok (.ireturn, 1) := by decide +kernel
theorem d_AR_copyOf_0 : decode (mC m_AR_copyOf) 0 = .ok (.iload_n 1, 1) := by decide +kernel
theorem d_AR_copyOf_1 : decode (mC m_AR_copyOf) 1 = .ok (.aload_n 0, 1) := by decide +kernel
theorem d_AR_copyOf_2 : decode (mC m_AR_copyOf) 2 = .ok (.arraylength, 1) := by decide +kernel
theorem d_AR_copyOf_3 : decode (mC m_AR_copyOf) 3 = .ok (.if_icmp .ne 11, 3) := by decide +kernel
theorem d_AR_copyOf_6 : decode (mC m_AR_copyOf) 6 = .ok (.aload_n 0, 1) := by decide +kernel
theorem d_AR_copyOf_7 : decode (mC m_AR_copyOf) 7 = .ok (.invokevirtual 310, 3) := by decide +kernel
theorem d_AR_copyOf_10 : decode (mC m_AR_copyOf) 10 = .ok (.checkcast 311, 3) := by decide +kernel
theorem d_AR_copyOf_13 : decode (mC m_AR_copyOf) 13 = .ok (.areturn, 1) := by decide +kernel
theorem d_AR_copyOf_14 : decode (mC m_AR_copyOf) 14 = .ok (.iload_n 1, 1) := by decide +kernel
theorem d_AR_copyOf_15 : decode (mC m_AR_copyOf) 15 = .ok (.newarray .byte, 2) := by decide +kernel
theorem d_AR_copyOf_17 : decode (mC m_AR_copyOf) 17 = .ok (.astore_n 2, 1) := by decide +kernel
theorem d_AR_copyOf_18 : decode (mC m_AR_copyOf) 18 = .ok (.aload_n 0, 1) := by decide +kernel
theorem d_AR_copyOf_19 : decode (mC m_AR_copyOf) 19 = .ok (.iconst 0, 1) := by decide +kernel
theorem d_AR_copyOf_20 : decode (mC m_AR_copyOf) 20 = .ok (.aload_n 2, 1) := by decide +kernel
theorem d_AR_copyOf_21 : decode (mC m_AR_copyOf) 21 = .ok (.iconst 0, 1) := by decide +kernel
theorem d_AR_copyOf_22 : decode (mC m_AR_copyOf) 22 = .ok (.aload_n 0, 1) := by decide +kernel
theorem d_AR_copyOf_23 : decode (mC m_AR_copyOf) 23 = .ok (.arraylength, 1) := by decide +kernel
theorem d_AR_copyOf_24 : decode (mC m_AR_copyOf) 24 = .ok (.iload_n 1, 1) := by decide +kernel
theorem d_AR_copyOf_25 : decode (mC m_AR_copyOf) 25 = .ok (.invokestatic 304, 3) := by decide +kernel
theorem d_AR_copyOf_28 : decode (mC m_AR_copyOf) 28 = .ok (.invokestatic 150, 3) := by decide +kernel
theorem d_AR_copyOf_31 : decode (mC m_AR_copyOf) 31 = .ok (.aload_n 2, 1) := by decide +kernel
theorem d_AR_copyOf_32 : decode (mC m_AR_copyOf) 32 = .ok (.areturn, 1) := by decide +kernel
theorem d_AS_ensure_0 : decode (mC m_AS_ensure) 0 = .ok (.aload_n 0, 1) := by decide +kernel
theorem d_AS_ensure_1 : decode (mC m_AS_ensure) 1 = .ok (.getfield 15, 3) := by decide +kernel
theorem d_AS_ensure_4 : decode (mC m_AS_ensure) 4 = .ok (.arraylength, 1) := by decide +kernel
theorem d_AS_ensure_5 : decode (mC m_AS_ensure) 5 = .ok (.aload_n 0, 1) := by decide +kernel
theorem d_AS_ensure_6 : decode (mC m_AS_ensure) 6 = .ok (.getfield 22, 3) := by decide +kernel
theorem d_AS_ensure_9 : decode (mC m_AS_ensure) 9 = .ok (.ishr, 1) := by decide +kernel
theorem d_AS_ensure_10 : decode (mC m_AS_ensure) 10 = .ok (.istore_n 2, 1) := by decide +kernel
theorem d_AS_ensure_11 : decode (mC m_AS_ensure) 11 = .ok (.iload_n 1, 1) := by decide +kernel
theorem d_AS_ensure_12 : decode (mC m_AS_ensure) 12 = .ok (.iload_n 2, 1) := by decide +kernel
theorem d_AS_ensure_13 : decode (mC m_AS_ensure) 13 = .ok (.isub, 1) := by decide +kernel
theorem d_AS_ensure_14 : decode (mC m_AS_ensure) 14 = .ok (.ifCond .le 24, 3) := by decide +kernel
theorem d_AS_ensure_17 : decode (mC m_AS_ensure) 17 = .ok (.aload_n 0, 1) := by decide +kernel
theorem d_AS_ensure_18 : decode (mC m_AS_ensure) 18 = .ok (.aload_n 0, 1) := by decide +kernel
theorem d_AS_ensure_19 : decode (mC m_AS_ensure) 19 = .ok (.getfield 15, 3) := by decide +kernel
theorem d_AS_ensure_22 : decode (mC m_AS_ensure) 22 = .ok (.aload_n 0, 1) := by decide +kernel
theorem d_AS_ensure_23 : decode (mC m_AS_ensure) 23 = .ok (.iload_n 1, 1) := by decide +kernel
theorem d_AS_ensure_24 : decode (mC m_AS_ensure) 24 = .ok (.invokevirtual 104, 3) := by decide +kernel
theorem d_AS_ensure_27 : decode (mC m_AS_ensure) 27 = .ok (.aload_n 0, 1) := by decide +kernel
theorem d_AS_ensure_28 : decode (mC m_AS_ensure) 28 = .ok (.getfield 22, 3) := by decide +kernel
theorem d_AS_ensure_31 : decode (mC m_AS_ensure) 31 = .ok (.ishl, 1) := by decide +kernel
theorem d_AS_ensure_32 : decode (mC m_AS_ensure) 32 = .ok (.invokestatic 108, 3) := by decide +kernel
theorem d_AS_ensure_35 : decode (mC m_AS_ensure) 35 = .ok (.putfield 15, 3) := by decide +kernel
theorem d_AS_ensure_38 : decode (mC m_AS_ensure) 38 = .ok (.return_, 1) := by decide +kernel
theorem d_AS_inflIf_0 : decode (mC m_AS_inflIf) 0 = .ok (.getstatic 18, 3) := by decide +kernel
theorem d_AS_inflIf_3 : decode (mC m_AS_inflIf) 3 = .ok (.ifCond .eq 18, 3) := by decide +kernel
theorem d_AS_inflIf_6 : decode (mC m_AS_inflIf) 6 = .ok (.aload_n 0, 1) := by decide +kernel
theorem d_AS_inflIf_7 : decode (mC m_AS_inflIf) 7 = .ok (.getfield 22, 3) := by decide +kernel
theorem d_AS_inflIf_10 : decode (mC m_AS_inflIf) 10 = .ok (.aload_n 1, 1) := by decide +kernel
theorem d_AS_inflIf_11 : decode (mC m_AS_inflIf) 11 = .ok (.invokevirtual 40, 3) := by decide +kernel
theorem d_AS_inflIf_14 : decode (mC m_AS_inflIf) 14 = .ok (.if_icmp .eq 7, 3) := by decide +kernel
theorem d_AS_inflIf_17 : decode (mC m_AS_inflIf) 17 = .ok (.aload_n 0, 1) := by decide +kernel
theorem d_AS_inflIf_18 : decode (mC m_AS_inflIf) 18 = .ok (.invokevirtual 195, 3) := by decide +kernel
theorem d_AS_inflIf_21 : decode (mC m_AS_inflIf) 21 = .ok (.return_, 1) := by decide +kernel
theorem d_AS_putStr_0 : decode (mC m_AS_putStr) 0 = .ok (.aload_n 0, 1) := by decide +kernel
theorem d_AS_putStr_1 : decode (mC m_AS_putStr) 1 = .ok (.aload_n 2, 1) := by decide +kernel
theorem d_AS_putStr_2 : decode (mC m_AS_putStr) 2 = .ok (.invokevirtual 397, 3) := by decide +kernel
theorem d_AS_putStr_5 : decode (mC m_AS_putStr) 5 = .ok (.aload_n 2, 1) := by decide +kernel
theorem d_AS_putStr_6 : decode (mC m_AS_putStr) 6 = .ok (.aload_n 0, 1) := by decide +kernel
theorem d_AS_putStr_7 : decode (mC m_AS_putStr) 7 = .ok (.getfield 15, 3) := by decide +kernel
theorem d_AS_putStr_10 : decode (mC m_AS_putStr) 10 = .ok (.iload_n 1, 1) := by decide +kernel
theorem d_AS_putStr_11 : decode (mC m_AS_putStr) 11 = .ok (.aload_n 0, 1) := by decide +kernel
theorem d_AS_putStr_12 : decode (mC m_AS_putStr) 12 = .ok (.getfield 22, 3) := by decide +kernel
theorem d_AS_putStr_15 : decode (mC m_AS_putStr) 15 = .ok (.invokevirtual 399, 3) := by decide +kernel
theorem d_AS_putStr_18 : decode (mC m_AS_putStr) 18 = .ok (.return_, 1) := by decide +kernel
theorem d_AS_appendS_0 : decode (mC m_AS_appendS) 0 = .ok (.aload_n 1, 1) := by decide +kernel
theorem d_AS_appendS_1 : decode (mC m_AS_appendS) 1 = .ok (.ifnonnull 8, 3) := by decide +kernel
theorem d_AS_appendS_4 : decode (mC m_AS_appendS) 4 = .ok (.aload_n 0, 1) := by decide +kernel
theorem d_AS_appendS_5 : decode (mC m_AS_appendS) 5 = .ok (.invokevirtual 204, 3) := by decide +kernel
theorem d_AS_appendS_8 : decode (mC m_AS_appendS) 8 = .ok (.areturn, 1) := by decide +kernel
theorem d_AS_appendS_9 : decode (mC m_AS_appendS) 9 = .ok (.aload_n 1, 1) := by decide +kernel
theorem d_AS_appendS_10 : decode (mC m_AS_appendS) 10 = .ok (.invokevirtual 32, 3) := by decide +kernel
theorem d_AS_appendS_13 : decode (mC m_AS_appendS) 13 = .ok (.istore_n 2, 1) := by decide +kernel
theorem d_AS_appendS_14 : decode (mC m_AS_appendS) 14 = .ok (.aload_n 0, 1) := by decide +kernel
theorem d_AS_appendS_15 : decode (mC m_AS_appendS) 15 = .ok (.aload_n 0, 1) := by decide +kernel
theorem d_AS_appendS_16 : decode (mC m_AS_appendS) 16 = .ok (.getfield 79, 3) := by decide +kernel
theorem d_AS_appendS_19 : decode (mC m_AS_appendS) 19 = .ok (.iload_n 2, 1) := by decide +kernel
theorem d_AS_appendS_20 : decode (mC m_AS_appendS) 20 = .ok (.iadd, 1) := by decide +kernel
theorem d_AS_appendS_21 : decode (mC m_AS_appendS) 21 = .ok (.invokevirtual 100, 3) := by decide +kernel
theorem d_AS_appendS_24 : decode (mC m_AS_appendS) 24 = .ok (.aload_n 0, 1) := by decide +kernel
theorem d_AS_appendS_25 : decode (mC m_AS_appendS) 25 = .ok (.aload_n 0, 1) := by decide +kernel
theorem d_AS_appendS_26 : decode (mC m_AS_appendS) 26 = .ok (.getfield 79, 3) := by decide +kernel
theorem d_AS_appendS_29 : decode (mC m_AS_appendS) 29 = .ok (.aload_n 1, 1) := by decide +kernel
theorem d_AS_appendS_30 : decode (mC m_AS_appendS) 30 = .ok (.invokevirtual 208, 3) := by decide +kernel
theorem d_AS_appendS_33 : decode (mC m_AS_appendS) 33 = .ok (.aload_n 0, 1) := by decide +kernel
theorem d_AS_appendS_34 : decode (mC m_AS_appendS) 34 = .ok (.dup, 1) := by decide +kernel
theorem d_AS_appendS_35 : decode (mC m_AS_appendS) 35 = .ok (.getfield 79, 3) := by decide +kernel
theorem d_AS_appendS_38 : decode (mC m_AS_appendS) 38 = .ok (.iload_n 2, 1) := by decide +kernel
theorem d_AS_appendS_39 : decode (mC m_AS_appendS) 39 = .ok (.iadd, 1) := by decide +kernel
theorem d_AS_appendS_40 : decode (mC m_AS_appendS) 40 = .ok (.putfield 79, 3) := by decide +kernel
theorem d_AS_appendS_43 : decode (mC m_AS_appendS) 43 = .ok (.aload_n 0, 1) := by decide +kernel
theorem d_AS_appendS_44 : decode (mC m_AS_appendS) 44 = .ok (.areturn, 1) := by decide +kernel
theorem d_SB_appendS_0 : decode (mC m_SB_appendS) 0 = .ok (.aload_n 0, 1) := by decide +kernel
theorem d_SB_appendS_1 : decode (mC m_SB_appendS) 1 = .ok (.aload_n 1, 1) := by decide +kernel
theorem d_SB_appendS_2 : decode (mC m_SB_appendS) 2 = .ok (.invokespecial 29, 3) := by decide +kernel
theorem d_SB_appendS_5 : decode (mC m_SB_appendS) 5 = .ok (.pop, 1) := by decide +kernel
theorem d_SB_appendS_6 : decode (mC m_SB_appendS) 6 = .ok (.aload_n 0, 1) := by decide +kernel
theorem d_SB_appendS_7 : decode (mC m_SB_appendS) 7 = .ok (.areturn, 1) := by decide +kernel
theorem d_IT_getChars_0 : decode (mC m_IT_getChars) 0 = .ok (.iload_n 1, 1) := by decide +kernel
theorem d_IT_getChars_1 : decode (mC m_IT_getChars) 1 = .ok (.istore 5, 2) := by decide +kernel
theorem d_IT_getChars_3 : decode (mC m_IT_getChars) 3 = .ok (.iload_n 0, 1) := by decide +kernel
theorem d_IT_getChars_4 : decode (mC m_IT_getChars) 4 = .ok (.ifCond .ge 7, 3) := by decide +kernel
theorem d_IT_getChars_7 : decode (mC m_IT_getChars) 7 = .ok (.iconst 1, 1) := by decide +kernel
theorem d_IT_getChars_8 : decode (mC m_IT_getChars) 8 = .ok (.goto 4, 3) := by decide +kernel
theorem d_IT_getChars_11 : decode (mC m_IT_getChars) 11 = .ok (.iconst 0, 1) := by decide +kernel
theorem d_IT_getChars_12 : decode (mC m_IT_getChars) 12 = .ok (.istore 6, 2) := by decide +kernel
theorem d_IT_getChars_14 : decode (mC m_IT_getChars) 14 = .ok (.iload 6, 2) := by decide +kernel
theorem d_IT_getChars_16 : decode (mC m_IT_getChars) 16 = .ok (.ifCond .ne 6, 3) := by decide +kernel
theorem d_IT_getChars_19 : decode (mC m_IT_getChars) 19 = .ok (.iload_n 0, 1) := by decide +kernel
theorem d_IT_getChars_20 : decode (mC m_IT_getChars) 20 = .ok (.ineg, 1) := by decide +kernel
theorem d_IT_getChars_21 : decode (mC m_IT_getChars) 21 = .ok (.istore_n 0, 1) := by decide +kernel
theorem d_IT_getChars_22 : decode (mC m_IT_getChars) 22 = .ok (.iload_n 0, 1) := by decide +kernel
theorem d_IT_getChars_23 : decode (mC m_IT_getChars) 23 = .ok (.bipush (-100), 2) := by decide +kernel
theorem d_IT_getChars_25 : decode (mC m_IT_getChars) 25 = .ok (.if_icmp .gt 47, 3) := by decide +kernel
theorem d_IT_getChars_28 : decode (mC m_IT_getChars) 28 = .ok (.iload_n 0, 1) := by decide +kernel
theorem d_IT_getChars_29 : decode (mC m_IT_getChars) 29 = .ok (.bipush 100, 2) := by decide +kernel
theorem d_IT_getChars_31 : decode (mC m_IT_getChars) 31 = .ok (.idiv, 1) := by decide +kernel
theorem d_IT_getChars_32 : decode (mC m_IT_getChars) 32 = .ok (.istore_n 3, 1) := by decide +kernel
theorem d_IT_getChars_33 : decode (mC m_IT_getChars) 33 = .ok (.iload_n 3, 1) := by decide +kernel
theorem d_IT_getChars_34 : decode (mC m_IT_getChars) 34 = .ok (.bipush 100, 2) := by decide +kernel
theorem d_IT_getChars_36 : decode (mC m_IT_getChars) 36 = .ok (.imul, 1) := by decide +kernel
theorem d_IT_getChars_37 : decode (mC m_IT_getChars) 37 = .ok (.iload_n 0, 1) := by decide +kernel
theorem d_IT_getChars_38 : decode (mC m_IT_getChars) 38 = .ok (.isub, 1) := by decide +kernel
theorem d_IT_getChars_39 : decode (mC m_IT_getChars) 39 = .ok (.istore 4, 2) := by decide +kernel
theorem d_IT_getChars_41 : decode (mC m_IT_getChars) 41 = .ok (.iload_n 3, 1) := by decide +kernel
theorem d_IT_getChars_42 : decode (mC m_IT_getChars) 42 = .ok (.istore_n 0, 1) := by decide +kernel
theorem d_IT_getChars_43 : decode (mC m_IT_getChars) 43 = .ok (.aload_n 2, 1) := by decide +kernel
theorem d_IT_getChars_44 : decode (mC m_IT_getChars) 44 = .ok (.iinc 5 (-1), 3) := by decide +kernel
theorem d_IT_getChars_47 : decode (mC m_IT_getChars) 47 = .ok (.iload 5, 2) := by decide +kernel
theorem d_IT_getChars_49 : decode (mC m_IT_getChars) 49 = .ok (.getstatic 83, 3) := by decide +kernel
theorem d_IT_getChars_52 : decode (mC m_IT_getChars) 52 = .ok (.iload 4, 2) := by decide +kernel
theorem d_IT_getChars_54 : decode (mC m_IT_getChars) 54 = .ok (.baload, 1) := by decide +kernel
theorem d_IT_getChars_55 : decode (mC m_IT_getChars) 55 = .ok (.bastore, 1) := by decide +kernel
theorem d_IT_getChars_56 : decode (mC m_IT_getChars) 56 = .ok (.aload_n 2, 1) := by decide +kernel
theorem d_IT_getChars_57 : decode (mC m_IT_getChars) 57 = .ok (.iinc 5 (-1), 3) := by decide +kernel
theorem d_IT_getChars_60 : decode (mC m_IT_getChars) 60 = .ok (.iload 5, 2) := by decide +kernel
theorem d_IT_getChars_62 : decode (mC m_IT_getChars) 62 = .ok (.getstatic 87, 3) := by decide +kernel
theorem d_IT_getChars_65 : decode (mC m_IT_getChars) 65 = .ok (.iload 4, 2) := by decide +kernel
theorem d_IT_getChars_67 : decode (mC m_IT_getChars) 67 = .ok (.baload, 1) := by decide +kernel
theorem d_IT_getChars_68 : decode (mC m_IT_getChars) 68 = .ok (.bastore, 1) := by decide +kernel
theorem d_IT_getChars_69 : decode (mC m_IT_getChars) 69 = .ok (.goto (-47), 3) := by decide +kernel
theorem d_IT_getChars_72 : decode (mC m_IT_getChars) 72 = .ok (.aload_n 2, 1) := by decide +kernel
theorem d_IT_getChars_73 : decode (mC m_IT_getChars) 73 = .ok (.iinc 5 (-1), 3) := by decide +kernel
theorem d_IT_getChars_76 : decode (mC m_IT_getChars) 76 = .ok (.iload 5, 2) := by decide +kernel
theorem d_IT_getChars_78 : decode (mC m_IT_getChars) 78 = .ok (.getstatic 83, 3) := by decide +kernel
theorem d_IT_getChars_81 : decode (mC m_IT_getChars) 81 = .ok (.iload_n 0, 1) := by decide +kernel
theorem d_IT_getChars_82 : decode (mC m_IT_getChars) 82 = .ok (.ineg, 1) := by decide +kernel
theorem d_IT_getChars_83 : decode (mC m_IT_getChars) 83 = .ok (.baload, 1) := by decide +kernel
theorem d_IT_getChars_84 : decode (mC m_IT_getChars) 84 = .ok (.bastore, 1) := by decide +kernel
theorem d_IT_getChars_85 : decode (mC m_IT_getChars) 85 = .ok (.iload_n 0, 1) := by decide +kernel
theorem d_IT_getChars_86 : decode (mC m_IT_getChars) 86 = .ok (.bipush (-9), 2) := by decide +kernel
theorem d_IT_getChars_88 : decode (mC m_IT_getChars) 88 = .ok (.if_icmp .ge 16, 3) := by decide +kernel
theorem d_IT_getChars_91 : decode (mC m_IT_getChars) 91 = .ok (.aload_n 2, 1) := by decide +kernel
theorem d_IT_getChars_92 : decode (mC m_IT_getChars) 92 = .ok (.iinc 5 (-1), 3) := by decide +kernel
theorem d_IT_getChars_95 : decode (mC m_IT_getChars) 95 = .ok (.iload 5, 2) := by decide +kernel
theorem d_IT_getChars_97 : decode (mC m_IT_getChars) 97 = .ok (.getstatic 87, 3) := by decide +kernel
theorem d_IT_getChars_100 : decode (mC m_IT_getChars) 100 = .ok (.iload_n 0, 1) := by decide +kernel
theorem d_IT_getChars_101 : decode (mC m_IT_getChars) 101 = .ok (.ineg, 1) := by decide +kernel
theorem d_IT_getChars_102 : decode (mC m_IT_getChars) 102 = .ok (.baload, 1) := by decide +kernel
theorem d_IT_getChars_103 : decode (mC m_IT_getChars) 103 = .ok (.bastore, 1) := by decide +kernel
theorem d_IT_getChars_104 : decode (mC m_IT_getChars) 104 = .ok (.iload 6, 2) := by decide +kernel
theorem d_IT_getChars_106 : decode (mC m_IT_getChars) 106 = .ok (.ifCond .eq 12, 3) := by decide +kernel
theorem d_IT_getChars_109 : decode (mC m_IT_getChars) 109 = .ok (.aload_n 2, 1) := by decide +kernel
theorem d_IT_getChars_110 : decode (mC m_IT_getChars) 110 = .ok (.iinc 5 (-1), 3) := by decide +kernel
theorem d_IT_getChars_113 : decode (mC m_IT_getChars) 113 = .ok (.iload 5, 2) := by decide +kernel
theorem d_IT_getChars_115 : decode (mC m_IT_getChars) 115 = .ok (.bipush 45, 2) := by decide +kernel
theorem d_IT_getChars_117 : decode (mC m_IT_getChars) 117 = .ok (.bastore, 1) := by decide +kernel
theorem d_IT_getChars_118 : decode (mC m_IT_getChars) 118 = .ok (.iload 5, 2) := by decide +kernel
theorem d_IT_getChars_120 : decode (mC m_IT_getChars) 120 = .ok (.ireturn, 1) := by decide +kernel
theorem d_AS_appendI_0 : decode (mC m_AS_appendI) 0 = .ok (.aload_n 0, 1) := by decide +kernel
theorem d_AS_appendI_1 : decode (mC m_AS_appendI) 1 = .ok (.getfield 79, 3) := by decide +kernel
theorem d_AS_appendI_4 : decode (mC m_AS_appendI) 4 = .ok (.istore_n 2, 1) := by decide +kernel
theorem d_AS_appendI_5 : decode (mC m_AS_appendI) 5 = .ok (.iload_n 2, 1) := by decide +kernel
theorem d_AS_appendI_6 : decode (mC m_AS_appendI) 6 = .ok (.iload_n 1, 1) := by decide +kernel
theorem d_AS_appendI_7 : decode (mC m_AS_appendI) 7 = .ok (.invokestatic 245, 3) := by decide +kernel
theorem d_AS_appendI_10 : decode (mC m_AS_appendI) 10 = .ok (.iadd, 1) := by decide +kernel
theorem d_AS_appendI_11 : decode (mC m_AS_appendI) 11 = .ok (.istore_n 3, 1) := by decide +kernel
theorem d_AS_appendI_12 : decode (mC m_AS_appendI) 12 = .ok (.aload_n 0, 1) := by decide +kernel
theorem d_AS_appendI_13 : decode (mC m_AS_appendI) 13 = .ok (.iload_n 3, 1) := by decide +kernel
theorem d_AS_appendI_14 : decode (mC m_AS_appendI) 14 = .ok (.invokevirtual 100, 3) := by decide +kernel
theorem d_AS_appendI_17 : decode (mC m_AS_appendI) 17 = .ok (.aload_n 0, 1) := by decide +kernel
theorem d_AS_appendI_18 : decode (mC m_AS_appendI) 18 = .ok (.invokevirtual 83, 3) := by decide +kernel
theorem d_AS_appendI_21 : decode (mC m_AS_appendI) 21 = .ok (.ifCond .eq 16, 3) := by decide +kernel
theorem d_AS_appendI_24 : decode (mC m_AS_appendI) 24 = .ok (.iload_n 1, 1) := by decide +kernel
theorem d_AS_appendI_25 : decode (mC m_AS_appendI) 25 = .ok (.iload_n 3, 1) := by decide +kernel
theorem d_AS_appendI_26 : decode (mC m_AS_appendI) 26 = .ok (.aload_n 0, 1) := by decide +kernel
theorem d_AS_appendI_27 : decode (mC m_AS_appendI) 27 = .ok (.getfield 15, 3) := by decide +kernel
theorem d_AS_appendI_30 : decode (mC m_AS_appendI) 30 = .ok (.invokestatic 248, 3) := by decide +kernel
theorem d_AS_appendI_33 : decode (mC m_AS_appendI) 33 = .ok (.pop, 1) := by decide +kernel
theorem d_AS_appendI_34 : decode (mC m_AS_appendI) 34 = .ok (.goto 14, 3) := by decide +kernel
theorem d_AS_appendI_37 : decode (mC m_AS_appendI) 37 = .ok (.iload_n 1, 1) := by decide +kernel
theorem d_AS_appendI_38 : decode (mC m_AS_appendI) 38 = .ok (.iload_n 2, 1) := by decide +kernel
theorem d_AS_appendI_39 : decode (mC m_AS_appendI) 39 = .ok (.iload_n 3, 1) := by decide +kernel
theorem d_AS_appendI_40 : decode (mC m_AS_appendI) 40 = .ok (.aload_n 0, 1) := by decide +kernel
theorem d_AS_appendI_41 : decode (mC m_AS_appendI) 41 = .ok (.getfield 15, 3) := by decide +kernel
theorem d_AS_appendI_44 : decode (mC m_AS_appendI) 44 = .ok (.invokestatic 251, 3) := by decide +kernel
theorem d_AS_appendI_47 : decode (mC m_AS_appendI) 47 = .ok (.pop, 1) := by decide +kernel
theorem d_AS_appendI_48 : decode (mC m_AS_appendI) 48 = .ok (.aload_n 0, 1) := by decide +kernel
theorem d_AS_appendI_49 : decode (mC m_AS_appendI) 49 = .ok (.iload_n 3, 1) := by decide +kernel
theorem d_AS_appendI_50 : decode (mC m_AS_appendI) 50 = .ok (.putfield 79, 3) := by decide +kernel
theorem d_AS_appendI_53 : decode (mC m_AS_appendI) 53 = .ok (.aload_n 0, 1) := by decide +kernel
theorem d_AS_appendI_54 : decode (mC m_AS_appendI) 54 = .ok (.areturn, 1) := by decide +kernel
theorem d_SB_appendI_0 : decode (mC m_SB_appendI) 0 = .ok (.aload_n 0, 1) := by decide +kernel
theorem d_SB_appendI_1 : decode (mC m_SB_appendI) 1 = .ok (.iload_n 1, 1) := by decide +kernel
theorem d_SB_appendI_2 : decode (mC m_SB_appendI) 2 = .ok (.invokespecial 53, 3) := by decide +kernel
theorem d_SB_appendI_5 : decode (mC m_SB_appendI) 5 = .ok (.pop, 1) := by decide +kernel
theorem d_SB_appendI_6 : decode (mC m_SB_appendI) 6 = .ok (.aload_n 0, 1) := by decide +kernel
theorem d_SB_appendI_7 : decode (mC m_SB_appendI) 7 = .ok (.areturn, 1) := by decide +kernel
theorem d_AR_checkLength_0 : decode (mC m_AR_checkLength) 0 = .ok (.iload_n 1, 1) := by decide +kernel
theorem d_AR_checkLength_1 : decode (mC m_AR_checkLength) 1 = .ok (.iload_n 0, 1) := by decide +kernel
theorem d_AR_checkLength_2 : decode (mC m_AR_checkLength) 2 = .ok (.if_icmp .ge 35, 3) := by decide +kernel
theorem d_AR_checkLength_5 : decode (mC m_AR_checkLength) 5 = .ok (.new 43, 3) := by decide +kernel
theorem d_AR_checkLength_8 : decode (mC m_AR_checkLength) 8 = .ok (.dup, 1) := by decide +kernel
theorem d_AR_checkLength_9 : decode (mC m_AR_checkLength) 9 = .ok (.new 45, 3) := by decide +kernel
theorem d_AR_checkLength_12 : decode (mC m_AR_checkLength) 12 = .ok (.dup, 1) := by decide +kernel
theorem d_AR_checkLength_13 : decode (mC m_AR_checkLength) 13 = .ok (.invokespecial 47, 3) := by decide +kernel
theorem d_AR_checkLength_16 : decode (mC m_AR_checkLength) 16 = .ok (.iload_n 0, 1) := by decide +kernel
theorem d_AR_checkLength_17 : decode (mC m_AR_checkLength) 17 = .ok (.invokevirtual 54, 3) := by decide +kernel
theorem d_AR_checkLength_20 : decode (mC m_AR_checkLength) 20 = .ok (.ldc_w 337, 3) := by decide +kernel
theorem d_AR_checkLength_23 : decode (mC m_AR_checkLength) 23 = .ok (.invokevirtual 50, 3) := by decide +kernel
theorem d_AR_checkLength_26 : decode (mC m_AR_checkLength) 26 = .ok (.iload_n 1, 1) := by decide +kernel
theorem d_AR_checkLength_27 : decode (mC m_AR_checkLength) 27 = .ok (.invokevirtual 54, 3) := by decide +kernel
theorem d_AR_checkLength_30 : decode (mC m_AR_checkLength) 30 = .ok (.invokevirtual 61, 3) := by decide +kernel
theorem d_AR_checkLength_33 : decode (mC m_AR_checkLength) 33 = .ok (.invokespecial 65, 3) := by decide +kernel
theorem d_AR_checkLength_36 : decode (mC m_AR_checkLength) 36 = .ok (.athrow, 1) := by decide +kernel
theorem d_AR_checkLength_37 : decode (mC m_AR_checkLength) 37 = .ok (.return_, 1) := by decide +kernel
theorem d_AR_copyRangeB_0 : decode (mC m_AR_copyRangeB) 0 = .ok (.iload_n 1, 1) := by decide +kernel
theorem d_AR_copyRangeB_1 : decode (mC m_AR_copyRangeB) 1 = .ok (.iload_n 2, 1) := by decide +kernel
theorem d_AR_copyRangeB_2 : decode (mC m_AR_copyRangeB) 2 = .ok (.invokestatic 343, 3) := by decide +kernel
theorem d_AR_copyRangeB_5 : decode (mC m_AR_copyRangeB) 5 = .ok (.iload_n 2, 1) := by decide +kernel
theorem d_AR_copyRangeB_6 : decode (mC m_AR_copyRangeB) 6 = .ok (.iload_n 1, 1) := by decide +kernel
theorem d_AR_copyRangeB_7 : decode (mC m_AR_copyRangeB) 7 = .ok (.isub, 1) := by decide +kernel
theorem d_AR_copyRangeB_8 : decode (mC m_AR_copyRangeB) 8 = .ok (.istore_n 3, 1) := by decide +kernel
theorem d_AR_copyRangeB_9 : decode (mC m_AR_copyRangeB) 9 = .ok (.iload_n 3, 1) := by decide +kernel
theorem d_AR_copyRangeB_10 : decode (mC m_AR_copyRangeB) 10 = .ok (.newarray .byte, 2) := by decide +kernel
theorem d_AR_copyRangeB_12 : decode (mC m_AR_copyRangeB) 12 = .ok (.astore 4, 2) := by decide +kernel
theorem d_AR_copyRangeB_14 : decode (mC m_AR_copyRangeB) 14 = .ok (.aload_n 0, 1) := by decide +kernel
theorem d_AR_copyRangeB_15 : decode (mC m_AR_copyRangeB) 15 = .ok (.iload_n 1, 1) := by decide +kernel
theorem d_AR_copyRangeB_16 : decode (mC m_AR_copyRangeB) 16 = .ok (.aload 4, 2) := by decide +kernel
theorem d_AR_copyRangeB_18 : decode (mC m_AR_copyRangeB) 18 = .ok (.iconst 0, 1) := by decide +kernel
theorem d_AR_copyRangeB_19 : decode (mC m_AR_copyRangeB) 19 = .ok (.aload_n 0, 1) := by decide +kernel
theorem d_AR_copyRangeB_20 : decode (mC m_AR_copyRangeB) 20 = .ok (.arraylength, 1) := by decide +kernel
theorem d_AR_copyRangeB_21 : decode (mC m_AR_copyRangeB) 21 = .ok (.iload_n 1, 1) := by decide +kernel
theorem d_AR_copyRangeB_22 : decode (mC m_AR_copyRangeB) 22 = .ok (.isub, 1) := by decide +kernel
theorem d_AR_copyRangeB_23 : decode (mC m_AR_copyRangeB) 23 = .ok (.iload_n 3, 1) := by decide +kernel
theorem d_AR_copyRangeB_24 : decode (mC m_AR_copyRangeB) 24 = .ok (.invokestatic 304, 3) := by decide +kernel
theorem d_AR_copyRangeB_27 : decode (mC m_AR_copyRangeB) 27 = .ok (.invokestatic 150, 3) := by decide +kernel
theorem d_AR_copyRangeB_30 : decode (mC m_AR_copyRangeB) 30 = .ok (.aload 4, 2) := by decide +kernel
theorem d_AR_copyRangeB_32 : decode (mC m_AR_copyRangeB) 32 = .ok (.areturn, 1) := by decide +kernel
theorem d_AR_copyRange_0 : decode (mC m_AR_copyRange) 0 = .ok (.iload_n 1, 1) := by decide +kernel
theorem d_AR_copyRange_1 : decode (mC m_AR_copyRange) 1 = .ok (.ifCond .ne 9, 3) := by decide +kernel
theorem d_AR_copyRange_4 : decode (mC m_AR_copyRange) 4 = .ok (.iload_n 2, 1) := by decide +kernel
theorem d_AR_copyRange_5 : decode (mC m_AR_copyRange) 5 = .ok (.aload_n 0, 1) := by decide +kernel
theorem d_AR_copyRange_6 : decode (mC m_AR_copyRange) 6 = .ok (.arraylength, 1) := by decide +kernel
theorem d_AR_copyRange_7 : decode (mC m_AR_copyRange) 7 = .ok (.if_icmp .eq 10, 3) := by decide +kernel
theorem d_AR_copyRange_10 : decode (mC m_AR_copyRange) 10 = .ok (.aload_n 0, 1) := by decide +kernel
theorem d_AR_copyRange_11 : decode (mC m_AR_copyRange) 11 = .ok (.iload_n 1, 1) := by decide +kernel
theorem d_AR_copyRange_12 : decode (mC m_AR_copyRange) 12 = .ok (.iload_n 2, 1) := by decide +kernel
theorem d_AR_copyRange_13 : decode (mC m_AR_copyRange) 13 = .ok (.invokestatic 339, 3) := by decide +kernel
theorem d_AR_copyRange_16 : decode (mC m_AR_copyRange) 16 = .ok (.areturn, 1) := by decide +kernel
theorem d_AR_copyRange_17 : decode (mC m_AR_copyRange) 17 = .ok (.aload_n 0, 1) := by decide +kernel
theorem d_AR_copyRange_18 : decode (mC m_AR_copyRange) 18 = .ok (.invokevirtual 310, 3) := by decide +kernel
theorem d_AR_copyRange_21 : decode (mC m_AR_copyRange) 21 = .ok (.checkcast 311, 3) := by decide +kernel
theorem d_AR_copyRange_24 : decode (mC m_AR_copyRange) 24 = .ok (.areturn, 1) := by decide +kernel
theorem d_ST_initA_0 : decode (mC m_ST_initA) 0 = .ok (.aload_n 0, 1) := by decide +kernel
theorem d_ST_initA_1 : decode (mC m_ST_initA) 1 = .ok (.invokespecial 1, 3) := by decide +kernel
theorem d_ST_initA_4 : decode (mC m_ST_initA) 4 = .ok (.aload_n 1, 1) := by decide +kernel
theorem d_ST_initA_5 : decode (mC m_ST_initA) 5 = .ok (.invokevirtual 552, 3) := by decide +kernel
theorem d_ST_initA_8 : decode (mC m_ST_initA) 8 = .ok (.astore_n 3, 1) := by decide +kernel
theorem d_ST_initA_9 : decode (mC m_ST_initA) 9 = .ok (.aload_n 1, 1) := by decide +kernel
theorem d_ST_initA_10 : decode (mC m_ST_initA) 10 = .ok (.invokevirtual 549, 3) := by decide +kernel
theorem d_ST_initA_13 : decode (mC m_ST_initA) 13 = .ok (.istore 4, 2) := by decide +kernel
theorem d_ST_initA_15 : decode (mC m_ST_initA) 15 = .ok (.aload_n 1, 1) := by decide +kernel
theorem d_ST_initA_16 : decode (mC m_ST_initA) 16 = .ok (.invokevirtual 1047, 3) := by decide +kernel
theorem d_ST_initA_19 : decode (mC m_ST_initA) 19 = .ok (.ifCond .eq 22, 3) := by decide +kernel
theorem d_ST_initA_22 : decode (mC m_ST_initA) 22 = .ok (.aload_n 0, 1) := by decide +kernel
theorem d_ST_initA_23 : decode (mC m_ST_initA) 23 = .ok (.iconst 0, 1) := by decide +kernel
theorem d_ST_initA_24 : decode (mC m_ST_initA) 24 = .ok (.putfield 15, 3) := by decide +kernel
theorem d_ST_initA_27 : decode (mC m_ST_initA) 27 = .ok (.aload_n 0, 1) := by decide +kernel
theorem d_ST_initA_28 : decode (mC m_ST_initA) 28 = .ok (.aload_n 3, 1) := by decide +kernel
theorem d_ST_initA_29 : decode (mC m_ST_initA) 29 = .ok (.iconst 0, 1) := by decide +kernel
theorem d_ST_initA_30 : decode (mC m_ST_initA) 30 = .ok (.iload 4, 2) := by decide +kernel
theorem d_ST_initA_32 : decode (mC m_ST_initA) 32 = .ok (.invokestatic 54, 3) := by decide +kernel
theorem d_ST_initA_35 : decode (mC m_ST_initA) 35 = .ok (.putfield 9, 3) := by decide +kernel
theorem d_ST_initA_38 : decode (mC m_ST_initA) 38 = .ok (.goto 59, 3) := by decide +kernel
theorem d_ST_initA_41 : decode (mC m_ST_initA) 41 = .ok (.getstatic 38, 3) := by decide +kernel
theorem d_ST_initA_44 : decode (mC m_ST_initA) 44 = .ok (.ifCond .eq 35, 3) := by decide +kernel
theorem d_ST_initA_47 : decode (mC m_ST_initA) 47 = .ok (.aload_n 1, 1) := by decide +kernel
theorem d_ST_initA_48 : decode (mC m_ST_initA) 48 = .ok (.getfield 1048, 3) := by decide +kernel
theorem d_ST_initA_51 : decode (mC m_ST_initA) 51 = .ok (.ifCond .eq 28, 3) := by decide +kernel
theorem d_ST_initA_54 : decode (mC m_ST_initA) 54 = .ok (.aload_n 0, 1) := by decide +kernel
theorem d_ST_initA_55 : decode (mC m_ST_initA) 55 = .ok (.aload_n 3, 1) := by decide +kernel
theorem d_ST_initA_56 : decode (mC m_ST_initA) 56 = .ok (.iconst 0, 1) := by decide +kernel
theorem d_ST_initA_57 : decode (mC m_ST_initA) 57 = .ok (.iload 4, 2) := by decide +kernel
theorem d_ST_initA_59 : decode (mC m_ST_initA) 59 = .ok (.invokestatic 1051, 3) := by decide +kernel
theorem d_ST_initA_62 : decode (mC m_ST_initA) 62 = .ok (.putfield 9, 3) := by decide +kernel
theorem d_ST_initA_65 : decode (mC m_ST_initA) 65 = .ok (.aload_n 0, 1) := by decide +kernel
theorem d_ST_initA_66 : decode (mC m_ST_initA) 66 = .ok (.aload_n 0, 1) := by decide +kernel
theorem d_ST_initA_67 : decode (mC m_ST_initA) 67 = .ok (.getfield 9, 3) := by decide +kernel
theorem d_ST_initA_70 : decode (mC m_ST_initA) 70 = .ok (.iload 4, 2) := by decide +kernel
theorem d_ST_initA_72 : decode (mC m_ST_initA) 72 = .ok (.invokestatic 47, 3) := by decide +kernel
theorem d_ST_initA_75 : decode (mC m_ST_initA) 75 = .ok (.putfield 15, 3) := by decide +kernel
theorem d_ST_initA_78 : decode (mC m_ST_initA) 78 = .ok (.return_, 1) := by decide +kernel
theorem d_ST_initA_79 : decode (mC m_ST_initA) 79 = .ok (.aload_n 0, 1) := by decide +kernel
theorem d_ST_initA_80 : decode (mC m_ST_initA) 80 = .ok (.iconst 1, 1) := by decide +kernel
theorem d_ST_initA_81 : decode (mC m_ST_initA) 81 = .ok (.putfield 15, 3) := by decide +kernel
theorem d_ST_initA_84 : decode (mC m_ST_initA) 84 = .ok (.aload_n 0, 1) := by decide +kernel
theorem d_ST_initA_85 : decode (mC m_ST_initA) 85 = .ok (.aload_n 3, 1) := by decide +kernel
theorem d_ST_initA_86 : decode (mC m_ST_initA) 86 = .ok (.iconst 0, 1) := by decide +kernel
theorem d_ST_initA_87 : decode (mC m_ST_initA) 87 = .ok (.iload 4, 2) := by decide +kernel
theorem d_ST_initA_89 : decode (mC m_ST_initA) 89 = .ok (.iconst 1, 1) := by decide +kernel
theorem d_ST_initA_90 : decode (mC m_ST_initA) 90 = .ok (.ishl, 1) := by decide +kernel
theorem d_ST_initA_91 : decode (mC m_ST_initA) 91 = .ok (.invokestatic 54, 3) := by decide +kernel
theorem d_ST_initA_94 : decode (mC m_ST_initA) 94 = .ok (.putfield 9, 3) := by decide +kernel
theorem d_ST_initA_97 : decode (mC m_ST_initA) 97 = .ok (.return_, 1) := by decide +kernel
theorem d_ST_initB_0 : decode (mC m_ST_initB) 0 = .ok (.aload_n 0, 1) := by decide +kernel
theorem d_ST_initB_1 : decode (mC m_ST_initB) 1 = .ok (.aload_n 1, 1) := by decide +kernel
theorem d_ST_initB_2 : decode (mC m_ST_initB) 2 = .ok (.aconst_null, 1) := by decide +kernel
theorem d_ST_initB_3 : decode (mC m_ST_initB) 3 = .ok (.invokespecial 489, 3) := by decide +kernel
theorem d_ST_initB_6 : decode (mC m_ST_initB) 6 = .ok (.return_, 1) := by decide +kernel
theorem d_SB_toString_0 : decode (mC m_SB_toString) 0 = .ok (.new 18, 3) := by decide +kernel
theorem d_SB_toString_3 : decode (mC m_SB_toString) 3 = .ok (.dup, 1) := by decide +kernel
theorem d_SB_toString_4 : decode (mC m_SB_toString) 4 = .ok (.aload_n 0, 1) := by decide +kernel
theorem d_SB_toString_5 : decode (mC m_SB_toString) 5 = .ok (.invokespecial 137, 3) := by decide +kernel
theorem d_SB_toString_8 : decode (mC m_SB_toString) 8 = .ok (.areturn, 1) := by decide +kernel
theorem mo_length : MO (mY m_AS_length) (mC m_AS_length) (mN m_AS_length) (mRt m_AS_length) m_SB_length 0 := ⟨rfl, ⟨tg_3 175 rfl rfl, tg_3 174 rfl rfl, tg_3 180 rfl rfl, tg_3 176 rfl rfl⟩, tg_3 177 rfl rfl, tg_1 9 rfl rfl, tg_3 178 rfl rfl, ⟨by decide, by decide, by decide +kernel⟩⟩
theorem cw_clone : ClW m_AR_copyRange 310 311 := ⟨⟨tg_3 61 rfl rfl, tg_3 62 rfl rfl, tg_3 63 rfl rfl, tg_3 64 rfl rfl, tg_3 65 rfl rfl, tn_3 66 rfl rfl, tg_3 67 rfl rfl⟩, by decide, by decide⟩
theorem shr_0 (x : Int32) : x >>> ((0 : Int32) &&& 31) = x := sb_shr0 x
theorem shl_0 (x : Int32) : x <<< ((0 : Int32) &&& 31) = x := sb_shl0 x
/-- bytes of texts -/
def Asc (n : Nat) (f : Nat → Int32) : Prop := ∀ j, j < n → ∃ b, b < 128 ∧ f j = nI b
theorem asc_c : ∀ b, b < 128 → ((nI b &&& 255).toUInt32 % 65536).toInt32 = nI b := by decide +kernel
theorem asc_n : ∀ b, b < 128 → narrow .char (.int (nI b)) = .int (nI b) := by
  intro b hb
  rw [← asc_c b hb]
  exact pk_nc _
set_option maxRecDepth 20000 in
theorem cq_ST_coder {E : En} {h : Hp} {a v m : Nat} {f : Nat → Int32} (o : SvO E h a v m f) : CR E m_ST_coder [.ref a] h (some (.int 0)) (h) := by
  refine ct_of rfl (by decide +kernel) (Nat.le_of_ble_eq_true rfl) ?_
  show G E m_ST_coder 0 [(0, .ref a)] [] h 0 0 _ noX
  refine g_gets (pc := 0) d_ST_coder_0 4 rfl (tg_2 78 rfl rfl) ?_
  show G E m_ST_coder 3 _ (.int 1 :: _) h 0 0 _ noX
  refine g_if_eq (pc := 3) (tgt := 13) d_ST_coder_3 (by decide) (fun c_3 => ?_) (fun c_3 => ?_)
  · exact absurd c_3 (by decide)
  · skip
    refine g_aload_n (pc := 6) d_ST_coder_6 rfl 0 rfl ?_
    refine g_svC (pc := 7) o d_ST_coder_7 (tg_3 202 rfl rfl) fl_ST_15 ?_
    refine g_goto (pc := 10) (tgt := 14) d_ST_coder_10 (by decide) ?_
    refine g_nret (pc := 14) d_ST_coder_14 rfl (by rfl) ?_
    exact ⟨rfl, rfl⟩
set_option maxRecDepth 20000 in
theorem cq_ST_isLatin1 {E : En} {h : Hp} {a v m : Nat} {f : Nat → Int32} (o : SvO E h a v m f) : CR E m_ST_isLatin1 [.ref a] h (some (.int 1)) (h) := by
  refine ct_of rfl (by decide +kernel) (Nat.le_of_ble_eq_true rfl) ?_
  show G E m_ST_isLatin1 0 [(0, .ref a)] [] h 0 0 _ noX
  refine g_gets (pc := 0) d_ST_isLatin1_0 4 rfl (tg_2 78 rfl rfl) ?_
  show G E m_ST_isLatin1 3 _ (.int 1 :: _) h 0 0 _ noX
  refine g_if_eq (pc := 3) (tgt := 17) d_ST_isLatin1_3 (by decide) (fun c_3 => ?_) (fun c_3 => ?_)
  · exact absurd c_3 (by decide)
  · skip
    refine g_aload_n (pc := 6) d_ST_isLatin1_6 rfl 0 rfl ?_
    refine g_svC (pc := 7) o d_ST_isLatin1_7 (tg_3 202 rfl rfl) fl_ST_15 ?_
    refine g_if_ne (pc := 10) (tgt := 17) d_ST_isLatin1_10 (by decide) (fun c_10 => ?_) (fun c_10 => ?_)
    · exact absurd rfl c_10
    · skip
      refine g_iconst (pc := 13) (v := 1) d_ST_isLatin1_13 (by decide) ?_
      refine g_goto (pc := 14) (tgt := 18) d_ST_isLatin1_14 (by decide) ?_
      refine g_zret (pc := 18) d_ST_isLatin1_18 rfl rfl ?_
      exact ⟨rfl, rfl⟩
set_option maxRecDepth 20000 in
theorem cq_ST_length {E : En} {h : Hp} {a v m : Nat} {f : Nat → Int32} (o : SvO E h a v m f) : CR E m_ST_length [.ref a] h (some (.int (nI m))) (h) := by
  refine ct_of rfl (by decide +kernel) (Nat.le_of_ble_eq_true rfl) ?_
  show G E m_ST_length 0 [(0, .ref a)] [] h 0 0 _ noX
  refine g_aload_n (pc := 0) d_ST_length_0 rfl 0 rfl ?_
  refine g_svV (pc := 1) o d_ST_length_1 (tg_3 201 rfl rfl) fl_ST_9 ?_
  refine g_svL (pc := 4) o.b d_ST_length_4 ?_
  refine g_aload_n (pc := 5) d_ST_length_5 rfl 0 rfl ?_
  refine g_callSv (pc := 6) (As := []) o d_ST_length_6 rfl mv_ST_coder rfl st_ST_length_335 rfl rfl (Nat.le_of_ble_eq_true rfl) (cq_ST_coder o) ?_
  refine g_ishr (pc := 9) d_ST_length_9 ?_
  refine g_iret (pc := 10) d_ST_length_10 rfl ?_
  exact ⟨congrArg (fun q => some (Value.int q)) (shr_0 _), rfl⟩
set_option maxRecDepth 20000 in
theorem cq_SL_charAt {E : En} {h : Hp} {v m j : Nat} {f : Nat → Int32} (o : SvB E h v m f) (hm : m < 2 ^ 31) (ha : Asc m f) (hj : j < m) : CR E m_SL_charAt [.ref v, .int (nI j)] h (some (.int (f j))) (h) := by
  refine ct_of rfl (by decide +kernel) (Nat.le_of_ble_eq_true rfl) ?_
  show G E m_SL_charAt 0 [(0, .ref v), (1, .int (nI j))] [] h 0 0 _ noX
  refine g_iload_n (pc := 0) d_SL_charAt_0 rfl 1 rfl ?_
  refine g_aload_n (pc := 1) d_SL_charAt_1 rfl 0 rfl ?_
  refine g_svL (pc := 2) o d_SL_charAt_2 ?_
  refine g_cS0 (pc := 3) (As := [.int _, .int _]) d_SL_charAt_3 rfl ms_ST_checkIndex st_SL_charAt_9 rfl rfl (Nat.le_of_ble_eq_true rfl) (ct_ST_checkIndex hj hm) ?_
  refine g_aload_n (pc := 6) d_SL_charAt_6 rfl 0 rfl ?_
  refine g_iload_n (pc := 7) d_SL_charAt_7 rfl 1 rfl ?_
  refine g_svA (pc := 8) o hj hm d_SL_charAt_8 ?_
  refine g_sipush (pc := 9) (v := 255) d_SL_charAt_9 (by decide) ?_
  refine g_iand (pc := 12) d_SL_charAt_12 ?_
  refine g_i2c (pc := 13) d_SL_charAt_13 ?_
  refine g_nret (pc := 14) d_SL_charAt_14 rfl (by exact pk_nc _) ?_
  exact ⟨by obtain ⟨b, hb, eb⟩ := ha j hj; rw [eb, asc_c b hb], rfl⟩
set_option maxRecDepth 20000 in
theorem cq_ST_charAt {E : En} {h : Hp} {a v m : Nat} {f : Nat → Int32} {j : Nat} (o : SvO E h a v m f) (hm : m < 2 ^ 31) (ha : Asc m f) (hj : j < m) : CR E m_ST_charAt [.ref a, .int (nI j)] h (some (.int (f j))) (h) := by
  refine ct_of rfl (by decide +kernel) (Nat.le_of_ble_eq_true rfl) ?_
  show G E m_ST_charAt 0 [(0, .ref a), (1, .int (nI j))] [] h 0 0 _ noX
  refine g_aload_n (pc := 0) d_ST_charAt_0 rfl 0 rfl ?_
  refine g_callSv (pc := 1) (As := []) o d_ST_charAt_1 rfl mv_ST_isLatin1 rfl st_ST_charAt_492 rfl rfl (Nat.le_of_ble_eq_true rfl) (cq_ST_isLatin1 o) ?_
  refine g_if_eq (pc := 4) (tgt := 16) d_ST_charAt_4 (by decide) (fun c_4 => ?_) (fun c_4 => ?_)
  · exact absurd c_4 (by decide)
  · skip
    refine g_aload_n (pc := 7) d_ST_charAt_7 rfl 0 rfl ?_
    refine g_svV (pc := 8) o d_ST_charAt_8 (tg_3 201 rfl rfl) fl_ST_9 ?_
    refine g_iload_n (pc := 11) d_ST_charAt_11 rfl 1 rfl ?_
    refine g_cS1 (pc := 12) (As := [.ref _, .int _]) d_ST_charAt_12 rfl ms_SL_charAt st_ST_charAt_495 rfl rfl (Nat.le_of_ble_eq_true rfl) (cq_SL_charAt o.b hm ha hj) ?_
    refine g_nret (pc := 15) d_ST_charAt_15 rfl (by (obtain ⟨b, hb, eb⟩ := ha j hj; rw [eb]; exact asc_n b hb)) ?_
    exact ⟨rfl, rfl⟩
theorem strB_a : ∀ i, i < 8 → ∀ j, j < strL.getD i 0 → ∃ b, b < 128 ∧ (strB.getD i []).getD j 0 = nI b := by decide +kernel
theorem g_callSv0 {E : En} {M : Mt} {pc : Nat} {lv : List (Nat × Value)} {st : List Value} {h : Hp} {k n : Nat} {P : Option Value → Hp → Prop} {X : String → Hp → Prop} {idx a v m : Nat} {f : Nat → Int32} {Z : Mt} {st0 As : List Value} {h9 : Hp} {na : Nat} (o : SvO E h a v m f) (hd : decode (mC M) pc = .ok (.invokevirtual idx, 3)) (hh : mHh M = []) (hz : MV Z na) (hy : (mY Z).cls = "java/lang/String") (hs : ST M idx Z) (hst : st0 = As.reverse ++ .ref a :: st) (hna : As.length = na) (hcat : (st.map fun v => v.category).sum ≤ 8)
    (hct : CR E Z (.ref a :: As) h none h9) (kk : G E M (pc + 3) lv st h9 k n P X) : G E M pc lv st0 h k n P X := by
  rcases o with ⟨i, h1, rfl, rfl, -⟩ | ⟨h1, h2, h3, -⟩
  · intro p e R s m args below meth c H locs cells slots ls C r h1' h2 hl
    obtain ⟨z1, z2, z3, z4, z5, z6⟩ := hz
    obtain ⟨s1, s2, s3⟩ := hs
    have hfr := C.2.2.2.2.2.2.2.2.2.2.2.2.1
    have hlo := C.2.2.2.2.2.2.2.2.2.2.2.2.2.1
    refine g_run (kz := 0) (nz := 0) C hh h1' h2 hl (vx_runV (Ts := tG) (cc := mC M) (nL := mN M) (own := (mY M).cls) (C := (mY Z).cls) (As := As) (b := eS E i) (n := na) (index := idx) ⟨C.1, C.2.1, C.2.2.1, C.2.2.2.1, C.hts⟩ hct
      (cwV na C.hts (fun w hw => ?_) (mW_code z1) rfl rfl ⟨rfl, z6⟩ ⟨by show mFr Z + 1 ≤ R.frames; omega, by show 8 + (mN Z + 11) + mLo Z ≤ R.locals; omega⟩)
      ⟨Inv.blind, by rw [hy]; exact vk_recv (strOk C) h1 C.hS, fun U hU hW => ⟨rfl, inv_at C r U hU hW⟩⟩ rfl hna hl.1 hst (lv_room hcat) hd ⟨by omega, by omega⟩) (fun _ _ z => z.elim) (fun v h1 hv => by obtain ⟨rfl, rfl⟩ := hv; exact kk)
    simp only [wsV, List.cons_append, List.nil_append, List.mem_cons] at hw
    rcases hw with rfl | rfl | rfl | rfl | hw
    · exact ⟨s1, tG_good _ s1⟩
    · exact ⟨z2, tG_good _ z2⟩
    · exact ⟨z3, tG_good _ z3⟩
    · exact ⟨z4, tG_good _ z4⟩
    · exact mW_good z1 z5 w hw
  · exact g_cV0 (ci := 10) (q := ("java/lang/String", F_10, 4)) hd hh hz hs rfl hy.symm (by decide) hst hna hcat h1 hct kk
theorem le_sub9 {q m : Nat} (hq : q < 2 ^ 30) (hm : m < 2 ^ 30) : nI q - nI m ≤ 0 ↔ q ≤ m := by
  rw [i_le, i_subI (by rw [nI_toInt (by omega), nI_toInt (by omega)]; omega) (by rw [nI_toInt (by omega), nI_toInt (by omega)]; omega), nI_toInt (by omega), nI_toInt (by omega)]
  rw [show (0 : Int32).toInt = 0 from rfl]
  omega
/-- a StringBuilder: its cell, its row, how many letters, how large, the row -/
def SbS (h : Hp) (so vb cnt m : Nat) (T : Nat → Int32) : Prop := hK h so = 9 ∧ hR h so 0 = some vb ∧ hI h so 1 = 0 ∧ hI h so 2 = nI cnt ∧ hK h vb = 21 ∧ hL h vb = m ∧ hI h vb = T
/-- a StringBuilder made behind h0, it holds l, and room for q letters -/
def SbY (h0 h : Hp) (so : Nat) (l : List Int32) (q : Nat) : Prop := Ext h0 h ∧ hK h0 so = 0 ∧ ∃ vb m T, hK h0 vb = 0 ∧ SbS h so vb l.length m T ∧ l.length ≤ m ∧ q ≤ m ∧ 0 < m ∧ m ≤ 700 ∧ Asc m T ∧ ∀ j, j < l.length → T j = l.getD j 0
/-- a text -/
def SvL (E : En) (h : Hp) (a : Nat) (l : List Int32) : Prop := l.length ≤ 300 ∧ Asc l.length (fun j => l.getD j 0) ∧ ∃ v, SvO E h a v l.length (fun j => l.getD j 0)
theorem SvL.ext {E : En} {h h1 : Hp} {a : Nat} {l : List Int32} (s : SvL E h a l) (e : Ext h h1) : SvL E h1 a l := by
  obtain ⟨s1, s2, v, s3⟩ := s
  refine ⟨s1, s2, v, ?_⟩
  rcases s3 with z | ⟨z1, z2, z3, z4, z5, z6⟩
  · exact Or.inl z
  · obtain ⟨a1, a2, a3, a4, a5⟩ := e a (by omega)
    obtain ⟨b1, b2, b3, b4, b5⟩ := e v (by omega)
    exact Or.inr ⟨a4.trans z1, by rw [a2]; exact z2, by rw [a1]; exact z3, b4.trans z4, b5.trans z5, by rw [b1]; exact z6⟩
theorem SvL.con {E : En} {h : Hp} {i : Nat} (hi : i < 8) : SvL E h (eS E i) (strB.getD i []) := by
  have e : (strB.getD i []).length = strL.getD i 0 := strL_len i hi
  refine ⟨by have := strL_lt i hi; omega, fun j hj => ?_, eV E i, Or.inl ⟨i, hi, rfl, rfl, e, fun _ _ => rfl⟩⟩
  rw [e] at hj
  exact strB_a i hi j hj
def ncp (q m : Nat) : Nat := m + (if q - m < m + 2 then m + 2 else q - m)
theorem ncp_b {q m : Nat} (h : m < q) : q ≤ ncp q m ∧ ncp q m ≤ 2 * q := by
  unfold ncp
  split <;> omega
theorem nI_leI9 {a b : Nat} (ha : a < 2 ^ 31) (hb : b < 2 ^ 31) : nI a ≤ nI b ↔ a ≤ b := by rw [i_le, nI_toInt ha, nI_toInt hb]; omega
theorem max_nI {a b : Nat} (ha : a < 2 ^ 31) (hb : b < 2 ^ 31) : (if nI a < nI b then nI b else nI a) = nI (if a < b then b else a) := by
  by_cases c : a < b
  · rw [if_pos (nI_lt c hb), if_pos c]
  · rw [if_neg (nI_nlt (Nat.not_lt.mp c) ha), if_neg c]
theorem min_nI {a b : Nat} (ha : a < 2 ^ 31) (hb : b < 2 ^ 31) : (if nI b < nI a then nI b else nI a) = nI (if b < a then b else a) := by
  by_cases c : b < a
  · rw [if_pos (nI_lt c ha), if_pos c]
  · rw [if_neg (nI_nlt (Nat.not_lt.mp c) hb), if_neg c]
set_option maxRecDepth 20000 in
theorem cq_ST_getBytes {E : En} {h : Hp} {a v m : Nat} {f : Nat → Int32} {b n1 dp : Nat} (o : SvO E h a v m f) (hm : m < 2 ^ 31) (hn1 : n1 < 2 ^ 31) (ha : Asc m f) (hk : hK h b = 21) (hl : hL h b = n1) (hd5 : dp + m ≤ n1) : CR E m_ST_getBytes [.ref a, .ref b, .int (nI dp), .int 0] h (none) (sA h b (va_cpy f (hI h b) 0 dp m)) := by
  refine ct_of rfl (by decide +kernel) (Nat.le_of_ble_eq_true rfl) ?_
  show G E m_ST_getBytes 0 [(0, .ref a), (1, .ref b), (2, .int (nI dp)), (3, .int 0)] [] h 0 0 _ noX
  refine g_aload_n (pc := 0) d_ST_getBytes_0 rfl 0 rfl ?_
  refine g_callSv (pc := 1) (As := []) o d_ST_getBytes_1 rfl mv_ST_coder rfl st_ST_getBytes_335 rfl rfl (Nat.le_of_ble_eq_true rfl) (cq_ST_coder o) ?_
  refine g_iload_n (pc := 4) d_ST_getBytes_4 rfl 3 rfl ?_
  refine g_icmp_ne (pc := 5) (tgt := 28) d_ST_getBytes_5 (by decide) (fun c_5 => ?_) (fun c_5 => ?_)
  · exact absurd rfl c_5
  · skip
    refine g_aload_n (pc := 8) d_ST_getBytes_8 rfl 0 rfl ?_
    refine g_svV (pc := 9) o d_ST_getBytes_9 (tg_3 201 rfl rfl) fl_ST_9 ?_
    refine g_iconst (pc := 12) (v := 0) d_ST_getBytes_12 (by decide) ?_
    refine g_aload_n (pc := 13) d_ST_getBytes_13 rfl 1 rfl ?_
    refine g_iload_n (pc := 14) d_ST_getBytes_14 rfl 2 rfl ?_
    refine g_iload_n (pc := 15) d_ST_getBytes_15 rfl 3 rfl ?_
    refine g_ishl (pc := 16) d_ST_getBytes_16 ?_
    refine g_top (shl_0 _) ?_
    refine g_aload_n (pc := 17) d_ST_getBytes_17 rfl 0 rfl ?_
    refine g_svV (pc := 18) o d_ST_getBytes_18 (tg_3 201 rfl rfl) fl_ST_9 ?_
    refine g_svL (pc := 21) o.b d_ST_getBytes_21 ?_
    refine g_top (y := nI m) rfl ?_
    refine g_copyB (pc := 22) (sp := 0) (dp := dp) (N := m) (n1 := n1) o.b hk hl (by omega) hd5 hm hn1 ha ac_ST_getBytes_212 (Nat.le_of_ble_eq_true rfl) d_ST_getBytes_22 ?_
    refine g_goto (pc := 25) (tgt := 43) d_ST_getBytes_25 (by decide) ?_
    refine g_vret (pc := 43) d_ST_getBytes_43 rfl ?_
    exact ⟨rfl, rfl⟩
set_option maxRecDepth 20000 in
theorem cq_AS_isLatin1 {E : En} {h : Hp} {so vb cnt m : Nat} {T : Nat → Int32} (hS : SbS h so vb cnt m T) : CR E m_AS_isLatin1 [.ref so] h (some (.int 1)) (h) := by
  refine ct_of rfl (by decide +kernel) (Nat.le_of_ble_eq_true rfl) ?_
  show G E m_AS_isLatin1 0 [(0, .ref so)] [] h 0 0 _ noX
  obtain ⟨k_so, r_so_0, hc1, hc2, k_vb, l_vb, e_vb⟩ := id hS
  refine g_gets (pc := 0) d_AS_isLatin1_0 4 rfl (tg_2 37 rfl rfl) ?_
  show G E m_AS_isLatin1 3 _ [.int 1] _ _ _ _ _
  refine g_if_eq (pc := 3) (tgt := 17) d_AS_isLatin1_3 (by decide) (fun c_3 => ?_) (fun c_3 => ?_)
  · exact absurd c_3 (by decide)
  · skip
    refine g_aload_n (pc := 6) d_AS_isLatin1_6 rfl 0 rfl ?_
    refine g_getI (pc := 7) (ci := 8) (f := 1) rfl d_AS_isLatin1_7 fl_AS_22 (by decide) (by assumption) ?_
    refine g_if_ne (pc := 10) (tgt := 17) d_AS_isLatin1_10 (by decide) (fun c_10 => ?_) (fun c_10 => ?_)
    · exact absurd hc1 c_10
    · skip
      refine g_iconst (pc := 13) (v := 1) d_AS_isLatin1_13 (by decide) ?_
      refine g_goto (pc := 14) (tgt := 18) d_AS_isLatin1_14 (by decide) ?_
      refine g_zret (pc := 18) d_AS_isLatin1_18 rfl rfl ?_
      exact ⟨rfl, rfl⟩
set_option maxRecDepth 20000 in
theorem cq_AS_length {E : En} {h : Hp} {so vb cnt m : Nat} {T : Nat → Int32} (hS : SbS h so vb cnt m T) : CR E m_AS_length [.ref so] h (some (.int (nI cnt))) (h) := by
  refine ct_of rfl (by decide +kernel) (Nat.le_of_ble_eq_true rfl) ?_
  show G E m_AS_length 0 [(0, .ref so)] [] h 0 0 _ noX
  obtain ⟨k_so, r_so_0, hc1, hc2, k_vb, l_vb, e_vb⟩ := id hS
  refine g_aload_n (pc := 0) d_AS_length_0 rfl 0 rfl ?_
  refine g_getI (pc := 1) (ci := 8) (f := 2) rfl d_AS_length_1 fl_AS_79 (by decide) (by assumption) ?_
  refine g_top hc2 ?_
  refine g_iret (pc := 4) d_AS_length_4 rfl ?_
  exact ⟨rfl, rfl⟩
set_option maxRecDepth 20000 in
theorem cq_SB_length {E : En} {h : Hp} {so vb cnt m : Nat} {T : Nat → Int32} (hS : SbS h so vb cnt m T) : CR E m_SB_length [.ref so] h (some (.int (nI cnt))) (h) := by
  refine ct_of rfl (by decide +kernel) (Nat.le_of_ble_eq_true rfl) ?_
  show G E m_SB_length 0 [(0, .ref so)] [] h 0 0 _ noX
  obtain ⟨k_so, r_so_0, hc1, hc2, k_vb, l_vb, e_vb⟩ := id hS
  refine g_aload_n (pc := 0) d_SB_length_0 rfl 0 rfl ?_
  refine g_callSU (k := 0) (n := 0) (kz := 0) (nz := 0) (pc := 1) (b := so) (As := []) d_SB_length_1 rfl rfl mu_AS_length st_SB_length_343 k_so rfl rfl (Nat.le_of_ble_eq_true rfl) (cq_AS_length hS) (fun _ _ z => z.elim) (fun v h1 z => ?_)
  obtain ⟨rfl, e9⟩ := z
  subst h1
  refine g_iret (pc := 4) d_SB_length_4 rfl ?_
  exact ⟨rfl, rfl⟩
set_option maxRecDepth 20000 in
theorem cq_AS_getValue {E : En} {h : Hp} {so vb cnt m : Nat} {T : Nat → Int32} (hS : SbS h so vb cnt m T) : CR E m_AS_getValue [.ref so] h (some (.ref vb)) (h) := by
  refine ct_of rfl (by decide +kernel) (Nat.le_of_ble_eq_true rfl) ?_
  show G E m_AS_getValue 0 [(0, .ref so)] [] h 0 0 _ noX
  obtain ⟨k_so, r_so_0, hc1, hc2, k_vb, l_vb, e_vb⟩ := id hS
  refine g_aload_n (pc := 0) d_AS_getValue_0 rfl 0 rfl ?_
  refine g_getR (pc := 1) (ci := 8) (f := 0) (b := vb) rfl r_so_0 d_AS_getValue_1 fl_AS_15 (by decide) k_so ?_
  refine g_aret (pc := 4) d_AS_getValue_4 rfl (by first | exact Or.inl ⟨_, rfl⟩ | exact Or.inr ⟨_, rfl⟩) ?_
  exact ⟨rfl, rfl⟩
set_option maxRecDepth 20000 in
theorem cq_AP_newLength {E : En} {h : Hp} {m g pf : Nat} (hm : 0 < m) (hb : m + (if g < pf then pf else g) < 2000000000) (hg : g < 2 ^ 31) (hp : pf < 2 ^ 31) : CR E m_AP_newLength [.int (nI m), .int (nI g), .int (nI pf)] h (some (.int (nI (m + (if g < pf then pf else g))))) (h) := by
  refine ct_of rfl (by decide +kernel) (Nat.le_of_ble_eq_true rfl) ?_
  show G E m_AP_newLength 0 [(0, .int (nI m)), (1, .int (nI g)), (2, .int (nI pf))] [] h 0 0 _ noX
  refine g_iload_n (pc := 0) d_AP_newLength_0 rfl 0 rfl ?_
  refine g_iload_n (pc := 1) d_AP_newLength_1 rfl 1 rfl ?_
  refine g_iload_n (pc := 2) d_AP_newLength_2 rfl 2 rfl ?_
  refine g_max (pc := 3) d_AP_newLength_3 mm_AP_newLength_194 (Nat.le_of_ble_eq_true rfl) ?_
  refine g_top (max_nI (by omega) (by omega)) ?_
  refine g_iadd (pc := 6) d_AP_newLength_6 ?_
  refine g_top (y := nI (m + (if g < pf then pf else g))) (nI_add _ _) ?_
  refine g_istore_n (pc := 7) (lv' := [(3, .int (nI (m + (if g < pf then pf else g)))), (0, .int (nI m)), (1, .int (nI g)), (2, .int (nI pf))]) d_AP_newLength_7 rfl (by decide) rfl ?_
  refine g_iconst (pc := 8) (v := 0) d_AP_newLength_8 (by decide) ?_
  refine g_iload_n (pc := 9) d_AP_newLength_9 rfl 0 rfl ?_
  refine g_icmp_ge (pc := 10) (tgt := 21) d_AP_newLength_10 (by decide) (fun c_10 => ?_) (fun c_10 => ?_)
  · exact absurd ((nI_leI9 (a := m + (if g < pf then pf else g)) (b := 0) (by omega) (by omega)).mp c_10) (by omega)
  · skip
    refine g_iload_n (pc := 13) d_AP_newLength_13 rfl 0 rfl ?_
    refine g_ldci (pc := 14) d_AP_newLength_14 co_AP_200 ?_
    refine g_icmp_gt (pc := 16) (tgt := 21) d_AP_newLength_16 (by decide) (fun c_16 => ?_) (fun c_16 => ?_)
    · exact absurd c_16 (show ¬ nI 2147483639 < nI (m + (if g < pf then pf else g)) from nI_nlt (by omega) (by decide))
    · skip
      refine g_iload_n (pc := 19) d_AP_newLength_19 rfl 0 rfl ?_
      refine g_iret (pc := 20) d_AP_newLength_20 rfl ?_
      exact ⟨rfl, rfl⟩
set_option maxRecDepth 20000 in
theorem cq_AS_newCap {E : En} {h : Hp} {so vb cnt m : Nat} {T : Nat → Int32} {q : Nat} (hS : SbS h so vb cnt m T) (hm : 0 < m) (hq : m < q) (hq3 : q ≤ 300) : CR E m_AS_newCap [.ref so, .int (nI q)] h (some (.int (nI (ncp q m)))) (h) := by
  refine ct_of rfl (by decide +kernel) (Nat.le_of_ble_eq_true rfl) ?_
  show G E m_AS_newCap 0 [(0, .ref so), (1, .int (nI q))] [] h 0 0 _ noX
  obtain ⟨k_so, r_so_0, hc1, hc2, k_vb, l_vb, e_vb⟩ := id hS
  refine g_aload_n (pc := 0) d_AS_newCap_0 rfl 0 rfl ?_
  refine g_getR (pc := 1) (ci := 8) (f := 0) (b := vb) rfl r_so_0 d_AS_newCap_1 fl_AS_15 (by decide) k_so ?_
  refine g_alenB k_vb l_vb (pc := 4) d_AS_newCap_4 ?_
  refine g_istore_n (pc := 5) (lv' := [(2, .int (nI m)), (0, .ref so), (1, .int (nI q))]) d_AS_newCap_5 rfl (by decide) rfl ?_
  refine g_iload_n (pc := 6) d_AS_newCap_6 rfl 2 rfl ?_
  refine g_aload_n (pc := 7) d_AS_newCap_7 rfl 1 rfl ?_
  refine g_getI (pc := 8) (ci := 8) (f := 1) rfl d_AS_newCap_8 fl_AS_22 (by decide) (by assumption) ?_
  refine g_top hc1 ?_
  refine g_ishl (pc := 11) d_AS_newCap_11 ?_
  refine g_top (shl_0 _) ?_
  refine g_istore_n (pc := 12) (lv' := [(3, .int (nI q)), (2, .int (nI m)), (0, .ref so), (1, .int (nI q))]) d_AS_newCap_12 rfl (by decide) rfl ?_
  refine g_iload_n (pc := 13) d_AS_newCap_13 rfl 0 rfl ?_
  refine g_iload_n (pc := 14) d_AS_newCap_14 rfl 1 rfl ?_
  refine g_isub (pc := 15) d_AS_newCap_15 ?_
  refine g_top (nI_sub (Nat.le_of_lt hq)) ?_
  refine g_istore (pc := 16) (lv' := [(4, .int (nI (q - m))), (3, .int (nI q)), (2, .int (nI m)), (0, .ref so), (1, .int (nI q))]) d_AS_newCap_16 (by decide) rfl ?_
  refine g_iload_n (pc := 18) d_AS_newCap_18 rfl 2 rfl ?_
  refine g_iload (pc := 19) d_AS_newCap_19 0 rfl ?_
  refine g_iload_n (pc := 21) d_AS_newCap_21 rfl 2 rfl ?_
  refine g_iconst (pc := 22) (v := 2) d_AS_newCap_22 (by decide) ?_
  refine g_aload_n (pc := 23) d_AS_newCap_23 rfl 3 rfl ?_
  refine g_getI (pc := 24) (ci := 8) (f := 1) rfl d_AS_newCap_24 fl_AS_22 (by decide) (by assumption) ?_
  refine g_top hc1 ?_
  refine g_ishl (pc := 27) d_AS_newCap_27 ?_
  refine g_top (y := nI 2) (shl_0 _) ?_
  refine g_iadd (pc := 28) d_AS_newCap_28 ?_
  refine g_top (y := nI (m + 2)) (nI_add _ _) ?_
  refine g_cS1 (pc := 29) (As := [.int _, .int _, .int _]) d_AS_newCap_29 rfl ms_AP_newLength st_AS_newCap_114 rfl rfl (Nat.le_of_ble_eq_true rfl) (cq_AP_newLength (m := m) (g := q - m) (pf := m + 2) hm (by have := ncp_b hq; unfold ncp at this; omega) (by omega) (by omega)) ?_
  refine g_istore (pc := 32) (lv' := [(5, .int (nI (ncp q m))), (4, .int (nI (q - m))), (3, .int (nI q)), (2, .int (nI m)), (0, .ref so), (1, .int (nI q))]) d_AS_newCap_32 (by decide) rfl ?_
  refine g_iload (pc := 34) d_AS_newCap_34 0 rfl ?_
  refine g_ldci (pc := 36) d_AS_newCap_36 co_AS_39 ?_
  refine g_icmp_ne (pc := 38) (tgt := 51) d_AS_newCap_38 (by decide) (fun c_38 => ?_) (fun c_38 => ?_)
  · skip
    refine g_iload (pc := 51) d_AS_newCap_51 0 rfl ?_
    refine g_aload_n (pc := 53) d_AS_newCap_53 rfl 4 rfl ?_
    refine g_getI (pc := 54) (ci := 8) (f := 1) rfl d_AS_newCap_54 fl_AS_22 (by decide) (by assumption) ?_
    refine g_top hc1 ?_
    refine g_ishr (pc := 57) d_AS_newCap_57 ?_
    refine g_top (shr_0 _) ?_
    refine g_iret (pc := 58) d_AS_newCap_58 rfl ?_
    exact ⟨rfl, rfl⟩
  · exact absurd (nI_inj (a := ncp q m) (b := 2147483647) (by have := ncp_b hq; omega) (by decide) c_38) (by have := ncp_b hq; omega)
set_option maxRecDepth 20000 in
theorem cq_AR_copyOf {E : En} {h : Hp} {vb m : Nat} {T : Nat → Int32} {q : Nat} (k_vb : hK h vb = 21) (l_vb : hL h vb = m) (e_vb : hI h vb = T) (hq : m < q) (hq7 : q ≤ 700) (ha : Asc m T) : CT E m_AR_copyOf [.ref vb, .int (nI q)] h 1 q (fun v h1 => ∃ b, hK h b = 0 ∧ v = some (.ref b) ∧ h1 = sA (hNew h b 21 q) b (va_cpy T (fun _ => 0) 0 0 m)) noX := by
  refine ct_of rfl (by decide +kernel) (Nat.le_of_ble_eq_true rfl) ?_
  show G E m_AR_copyOf 0 [(0, .ref vb), (1, .int (nI q))] [] h 1 q _ noX
  refine G.mono (k := 0 + 1) (n := 0 + q) (by omega) (by omega) ?_
  refine g_iload_n (pc := 0) d_AR_copyOf_0 rfl 1 rfl ?_
  refine g_aload_n (pc := 1) d_AR_copyOf_1 rfl 0 rfl ?_
  refine g_alenB k_vb l_vb (pc := 2) d_AR_copyOf_2 ?_
  refine g_icmp_ne (pc := 3) (tgt := 14) d_AR_copyOf_3 (by decide) (fun c_3 => ?_) (fun c_3 => ?_)
  · skip
    refine g_iload_n (pc := 14) d_AR_copyOf_14 rfl 1 rfl ?_
    refine g_newarray (k := 0) (n := 0) (pc := 15) (kd := 21) (N := q) d_AR_copyOf_15 ⟨by decide, by decide⟩ rfl ac_b (lt0 (by omega)) (nI_clamp (by omega)) (by show q * 1 ≤ _; omega) (fun b hb => ?_)
    have nv : vb ≠ b := fun z => by rw [z] at k_vb; omega
    have k_v2 : hK (hNew h b 21 q) vb = 21 := by rw [hK_new, if_neg nv]; exact k_vb
    have l_v2 : hL (hNew h b 21 q) vb = m := by rw [hL_new, if_neg nv]; exact l_vb
    have e_v2 : hI (hNew h b 21 q) vb = T := by rw [hI_new, if_neg nv]; exact e_vb
    have k_a2 : hK (hNew h b 21 q) b = 21 := by rw [hK_new, if_pos rfl]
    have l_a2 : hL (hNew h b 21 q) b = q := by rw [hL_new, if_pos rfl]
    refine g_astore_n (pc := 17) (lv' := [(2, .ref b), (0, .ref vb), (1, .int (nI q))]) d_AR_copyOf_17 rfl (by decide) rfl ?_
    refine g_aload_n (pc := 18) d_AR_copyOf_18 rfl 1 rfl ?_
    refine g_iconst (pc := 19) (v := 0) d_AR_copyOf_19 (by decide) ?_
    refine g_aload_n (pc := 20) d_AR_copyOf_20 rfl 0 rfl ?_
    refine g_iconst (pc := 21) (v := 0) d_AR_copyOf_21 (by decide) ?_
    refine g_aload_n (pc := 22) d_AR_copyOf_22 rfl 1 rfl ?_
    refine g_alenB k_v2 l_v2 (pc := 23) d_AR_copyOf_23 ?_
    refine g_iload_n (pc := 24) d_AR_copyOf_24 rfl 2 rfl ?_
    refine g_min (pc := 25) d_AR_copyOf_25 mm_AR_copyOf_304 (Nat.le_of_ble_eq_true rfl) ?_
    refine g_top (y := nI m) (by rw [min_nI (by omega) (by omega), if_neg (by omega)]) ?_
    refine g_copyB (pc := 28) (sp := 0) (dp := 0) (N := m) (m := m) (n1 := q) (f := T) (Or.inr ⟨k_v2, l_v2, fun j _ => by rw [e_v2]⟩) k_a2 l_a2 (by omega) (by omega) (by omega) (by omega) ha ac_AR_copyOf_150 (Nat.le_of_ble_eq_true rfl) d_AR_copyOf_28 ?_
    refine g_aload_n (pc := 31) d_AR_copyOf_31 rfl 0 rfl ?_
    refine g_aret (pc := 32) d_AR_copyOf_32 rfl (by first | exact Or.inl ⟨_, rfl⟩ | exact Or.inr ⟨_, rfl⟩) ?_
    refine ⟨b, hb, rfl, ?_⟩
    rw [hI_new, if_pos rfl]
  · exact absurd (nI_inj (by omega) (by omega) c_3) (by omega)
set_option maxRecDepth 20000 in
theorem cq_AS_ensure {E : En} {h : Hp} {so vb cnt m : Nat} {T : Nat → Int32} {q : Nat} (hS : SbS h so vb cnt m T) (hm : 0 < m) (hm7 : m ≤ 700) (hq3 : q ≤ 300) (ha : Asc m T) : CT E m_AS_ensure [.ref so, .int (nI q)] h 1 700 (fun v h1 => v = none ∧ ((q ≤ m ∧ h1 = h) ∨ (m < q ∧ ∃ b, hK h b = 0 ∧ h1 = sR (sA (hNew h b 21 (ncp q m)) b (va_cpy T (fun _ => 0) 0 0 m)) so 0 (some b)))) noX := by
  refine ct_of rfl (by decide +kernel) (Nat.le_of_ble_eq_true rfl) ?_
  show G E m_AS_ensure 0 [(0, .ref so), (1, .int (nI q))] [] h 1 700 _ noX
  obtain ⟨k_so, r_so_0, hc1, hc2, k_vb, l_vb, e_vb⟩ := id hS
  refine g_aload_n (pc := 0) d_AS_ensure_0 rfl 0 rfl ?_
  refine g_getR (pc := 1) (ci := 8) (f := 0) (b := vb) rfl r_so_0 d_AS_ensure_1 fl_AS_15 (by decide) k_so ?_
  refine g_alenB k_vb l_vb (pc := 4) d_AS_ensure_4 ?_
  refine g_aload_n (pc := 5) d_AS_ensure_5 rfl 0 rfl ?_
  refine g_getI (pc := 6) (ci := 8) (f := 1) rfl d_AS_ensure_6 fl_AS_22 (by decide) (by assumption) ?_
  refine g_top hc1 ?_
  refine g_ishr (pc := 9) d_AS_ensure_9 ?_
  refine g_top (shr_0 _) ?_
  refine g_istore_n (pc := 10) (lv' := [(2, .int (nI m)), (0, .ref so), (1, .int (nI q))]) d_AS_ensure_10 rfl (by decide) rfl ?_
  refine g_iload_n (pc := 11) d_AS_ensure_11 rfl 2 rfl ?_
  refine g_iload_n (pc := 12) d_AS_ensure_12 rfl 0 rfl ?_
  refine g_isub (pc := 13) d_AS_ensure_13 ?_
  refine g_if_le (pc := 14) (tgt := 38) d_AS_ensure_14 (by decide) (fun c_14 => ?_) (fun c_14 => ?_)
  · skip
    have hqm : q ≤ m := (le_sub9 (by omega) (by omega)).mp c_14
    refine G.mono (k := 0) (n := 0) (by omega) (by omega) ?_
    refine g_vret (pc := 38) d_AS_ensure_38 rfl ?_
    exact ⟨rfl, by first | exact Or.inl ⟨hqm, rfl⟩ | exact Or.inr ⟨hqm, b, hb, rfl⟩⟩
  · skip
    have hqm : m < q := Nat.lt_of_not_le (fun z => c_14 ((le_sub9 (by omega) (by omega)).mpr z))
    have hnc := ncp_b hqm
    refine G.mono (k := 0 + 1) (n := 0 + ncp q m) (by omega) (by omega) ?_
    refine g_aload_n (pc := 17) d_AS_ensure_17 rfl 1 rfl ?_
    refine g_aload_n (pc := 18) d_AS_ensure_18 rfl 1 rfl ?_
    refine g_getR (pc := 19) (ci := 8) (f := 0) (b := vb) rfl r_so_0 d_AS_ensure_19 fl_AS_15 (by decide) k_so ?_
    refine g_aload_n (pc := 22) d_AS_ensure_22 rfl 1 rfl ?_
    refine g_iload_n (pc := 23) d_AS_ensure_23 rfl 2 rfl ?_
    refine g_callVA (k := 0 + 1) (n := 0 + ncp q m) (kz := 0) (nz := 0) (pc := 24) (b := so) (As := [.int _]) d_AS_ensure_24 rfl mp_AS_newCap st_AS_ensure_104 sel_AS_newCap k_so rfl rfl (Nat.le_of_ble_eq_true rfl) (cq_AS_newCap hS hm hqm hq3) (fun _ _ z => z.elim) (fun v h1 z => ?_)
    obtain ⟨rfl, e9⟩ := z
    subst h1
    refine g_aload_n (pc := 27) d_AS_ensure_27 rfl 1 rfl ?_
    refine g_getI (pc := 28) (ci := 8) (f := 1) rfl d_AS_ensure_28 fl_AS_22 (by decide) (by assumption) ?_
    refine g_top hc1 ?_
    refine g_ishl (pc := 31) d_AS_ensure_31 ?_
    refine g_top (shl_0 _) ?_
    refine g_callS (k := 0) (n := 0) (kz := 1) (nz := ncp q m) (pc := 32) (As := [.ref _, .int _]) d_AS_ensure_32 rfl ms_AR_copyOf st_AS_ensure_108 rfl rfl (Nat.le_of_ble_eq_true rfl) (cq_AR_copyOf k_vb l_vb e_vb (q := ncp q m) (by omega) (by omega) ha) (fun _ _ z => z.elim) (fun v h1 z => ?_)
    obtain ⟨b, hb, rfl, rfl⟩ := z
    have nb : so ≠ b := fun z => by rw [z] at k_so; omega
    refine g_putR (pc := 35) (ci := 8) (f := 0) rfl d_AS_ensure_35 fl_AS_15 (fun q hq => by cases hq; exact rfl) rfl rfl (by decide) (by show hK (hNew h b 21 (ncp q m)) so = 9; rw [hK_new, if_neg nb]; exact k_so) ?_
    refine g_vret (pc := 38) d_AS_ensure_38 rfl ?_
    exact ⟨rfl, by first | exact Or.inl ⟨hqm, rfl⟩ | exact Or.inr ⟨hqm, b, hb, rfl⟩⟩
