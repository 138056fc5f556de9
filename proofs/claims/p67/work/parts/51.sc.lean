/-! THE JDK: StringBuilder, its methods -/
def m_SB_init : Mt := (⟨"java/lang/StringBuilder", "<init>", "()V"⟩, prog_23_method_1_code, 1, (Option.none : Option Jvm.ClassFile.FieldType), [], 3, 66)
def m_AS_init : Mt := (⟨"java/lang/AbstractStringBuilder", "<init>", "(I)V"⟩, prog_12_method_2_code, 2, (Option.none : Option Jvm.ClassFile.FieldType), [], 2, 45)
def m_IT_stringSize : Mt := (⟨"java/lang/Integer", "stringSize", "(I)I"⟩, prog_18_method_13_code, 4, (Option.some Jvm.ClassFile.FieldType.int), [], 2, 45)
theorem mi_SB_init : MI m_SB_init 0 := ⟨rfl, rfl, rfl, tg_2 31 rfl rfl, tg_1 9 rfl rfl, tg_2 32 rfl rfl, ⟨by decide, by decide, by decide +kernel⟩⟩
theorem mi_AS_init : MI m_AS_init 1 := ⟨rfl, rfl, rfl, tg_2 34 rfl rfl, tg_1 8 rfl rfl, tg_2 35 rfl rfl, ⟨by decide, by decide, by decide +kernel⟩⟩
theorem st_SB_init_1 : ST m_SB_init 1 m_AS_init := ⟨tg_2 33 rfl rfl, by decide, by decide⟩
theorem st_HS_init_41 : ST m_HS_init 41 m_SB_init := ⟨tg_2 30 rfl rfl, by decide, by decide⟩
theorem fl_AS_15 : FLk "java/lang/AbstractStringBuilder" 15 8 0 := ⟨_, rfl, by decide, tg_2 46 rfl rfl⟩
theorem fl_AS_22 : FLk "java/lang/AbstractStringBuilder" 22 8 1 := ⟨_, rfl, by decide, tg_2 47 rfl rfl⟩
theorem d_SB_init_0 : decode (mC m_SB_init) 0 = .ok (.aload_n 0, 1) := by decide +kernel
theorem d_SB_init_1 : decode (mC m_SB_init) 1 = .ok (.bipush 16, 2) := by decide +kernel
theorem d_SB_init_3 : decode (mC m_SB_init) 3 = .ok (.invokespecial 1, 3) := by decide +kernel
theorem d_SB_init_6 : decode (mC m_SB_init) 6 = .ok (.return_, 1) := by decide +kernel
theorem d_AS_init_0 : decode (mC m_AS_init) 0 = .ok (.aload_n 0, 1) := by decide +kernel
theorem d_AS_init_1 : decode (mC m_AS_init) 1 = .ok (.invokespecial 3, 3) := by decide +kernel
theorem d_AS_init_4 : decode (mC m_AS_init) 4 = .ok (.getstatic 18, 3) := by decide +kernel
theorem d_AS_init_7 : decode (mC m_AS_init) 7 = .ok (.ifCond .eq 18, 3) := by decide +kernel
theorem d_AS_init_10 : decode (mC m_AS_init) 10 = .ok (.aload_n 0, 1) := by decide +kernel
theorem d_AS_init_11 : decode (mC m_AS_init) 11 = .ok (.iload_n 1, 1) := by decide +kernel
theorem d_AS_init_12 : decode (mC m_AS_init) 12 = .ok (.newarray .byte, 2) := by decide +kernel
theorem d_AS_init_14 : decode (mC m_AS_init) 14 = .ok (.putfield 15, 3) := by decide +kernel
theorem d_AS_init_17 : decode (mC m_AS_init) 17 = .ok (.aload_n 0, 1) := by decide +kernel
theorem d_AS_init_18 : decode (mC m_AS_init) 18 = .ok (.iconst 0, 1) := by decide +kernel
theorem d_AS_init_19 : decode (mC m_AS_init) 19 = .ok (.putfield 22, 3) := by decide +kernel
theorem d_AS_init_22 : decode (mC m_AS_init) 22 = .ok (.goto 16, 3) := by decide +kernel
theorem d_AS_init_38 : decode (mC m_AS_init) 38 = .ok (.return_, 1) := by decide +kernel
theorem d_IT_stringSize_0 : decode (mC m_IT_stringSize) 0 = .ok (.iconst 1, 1) := by decide +kernel
theorem d_IT_stringSize_1 : decode (mC m_IT_stringSize) 1 = .ok (.istore_n 1, 1) := by decide +kernel
theorem d_IT_stringSize_2 : decode (mC m_IT_stringSize) 2 = .ok (.iload_n 0, 1) := by decide +kernel
theorem d_IT_stringSize_3 : decode (mC m_IT_stringSize) 3 = .ok (.ifCond .lt 8, 3) := by decide +kernel
theorem d_IT_stringSize_6 : decode (mC m_IT_stringSize) 6 = .ok (.iconst 0, 1) := by decide +kernel
theorem d_IT_stringSize_7 : decode (mC m_IT_stringSize) 7 = .ok (.istore_n 1, 1) := by decide +kernel
theorem d_IT_stringSize_8 : decode (mC m_IT_stringSize) 8 = .ok (.iload_n 0, 1) := by decide +kernel
theorem d_IT_stringSize_9 : decode (mC m_IT_stringSize) 9 = .ok (.ineg, 1) := by decide +kernel
theorem d_IT_stringSize_10 : decode (mC m_IT_stringSize) 10 = .ok (.istore_n 0, 1) := by decide +kernel
theorem d_IT_stringSize_11 : decode (mC m_IT_stringSize) 11 = .ok (.bipush (-10), 2) := by decide +kernel
theorem d_IT_stringSize_13 : decode (mC m_IT_stringSize) 13 = .ok (.istore_n 2, 1) := by decide +kernel
theorem d_IT_stringSize_14 : decode (mC m_IT_stringSize) 14 = .ok (.iconst 1, 1) := by decide +kernel
theorem d_IT_stringSize_15 : decode (mC m_IT_stringSize) 15 = .ok (.istore_n 3, 1) := by decide +kernel
theorem d_IT_stringSize_16 : decode (mC m_IT_stringSize) 16 = .ok (.iload_n 3, 1) := by decide +kernel
theorem d_IT_stringSize_17 : decode (mC m_IT_stringSize) 17 = .ok (.bipush 10, 2) := by decide +kernel
theorem d_IT_stringSize_19 : decode (mC m_IT_stringSize) 19 = .ok (.if_icmp .ge 23, 3) := by decide +kernel
theorem d_IT_stringSize_22 : decode (mC m_IT_stringSize) 22 = .ok (.iload_n 0, 1) := by decide +kernel
theorem d_IT_stringSize_23 : decode (mC m_IT_stringSize) 23 = .ok (.iload_n 2, 1) := by decide +kernel
theorem d_IT_stringSize_24 : decode (mC m_IT_stringSize) 24 = .ok (.if_icmp .le 7, 3) := by decide +kernel
theorem d_IT_stringSize_27 : decode (mC m_IT_stringSize) 27 = .ok (.iload_n 3, 1) := by decide +kernel
theorem d_IT_stringSize_28 : decode (mC m_IT_stringSize) 28 = .ok (.iload_n 1, 1) := by decide +kernel
theorem d_IT_stringSize_29 : decode (mC m_IT_stringSize) 29 = .ok (.iadd, 1) := by decide +kernel
theorem d_IT_stringSize_30 : decode (mC m_IT_stringSize) 30 = .ok (.ireturn, 1) := by decide +kernel
theorem d_IT_stringSize_31 : decode (mC m_IT_stringSize) 31 = .ok (.bipush 10, 2) := by decide +kernel
theorem d_IT_stringSize_33 : decode (mC m_IT_stringSize) 33 = .ok (.iload_n 2, 1) := by decide +kernel
theorem d_IT_stringSize_34 : decode (mC m_IT_stringSize) 34 = .ok (.imul, 1) := by decide +kernel
theorem d_IT_stringSize_35 : decode (mC m_IT_stringSize) 35 = .ok (.istore_n 2, 1) := by decide +kernel
theorem d_IT_stringSize_36 : decode (mC m_IT_stringSize) 36 = .ok (.iinc 3 1, 3) := by decide +kernel
theorem d_IT_stringSize_39 : decode (mC m_IT_stringSize) 39 = .ok (.goto (-23), 3) := by decide +kernel
theorem d_IT_stringSize_42 : decode (mC m_IT_stringSize) 42 = .ok (.bipush 10, 2) := by decide +kernel
theorem d_IT_stringSize_44 : decode (mC m_IT_stringSize) 44 = .ok (.iload_n 1, 1) := by decide +kernel
theorem d_IT_stringSize_45 : decode (mC m_IT_stringSize) 45 = .ok (.iadd, 1) := by decide +kernel
theorem d_IT_stringSize_46 : decode (mC m_IT_stringSize) 46 = .ok (.ireturn, 1) := by decide +kernel
