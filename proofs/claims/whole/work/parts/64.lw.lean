/-! THE LAW: its helpers -/
def m_LW_append : Mt := (⟨"HonestScalesLaw", "append", "(LHonestScales;IIIII[J)I"⟩, method_3_code, 8, (Option.some Jvm.ClassFile.FieldType.int), [((0 : Nat), (16 : Nat), (19 : Nat), (13 : Nat))], 33, 1067)
theorem mx_LW_append : MSX m_LW_append 7 := ⟨by decide, tg_3 198 rfl rfl, tg_1 0 rfl rfl, tg_3 199 rfl rfl, ⟨by decide, by decide, by decide +kernel⟩⟩
theorem st_LW_append_7 : ST m_LW_append 7 m_HS_append := ⟨tg_3 201 rfl rfl, by decide, by decide⟩
theorem d_LW_append_0 : decode (mC m_LW_append) 0 = .ok (.aload 6, 2) := by decide +kernel
theorem d_LW_append_2 : decode (mC m_LW_append) 2 = .ok (.iconst 0, 1) := by decide +kernel
theorem d_LW_append_3 : decode (mC m_LW_append) 3 = .ok (.aload_n 0, 1) := by decide +kernel
theorem d_LW_append_4 : decode (mC m_LW_append) 4 = .ok (.iload_n 1, 1) := by decide +kernel
theorem d_LW_append_5 : decode (mC m_LW_append) 5 = .ok (.iload_n 2, 1) := by decide +kernel
theorem d_LW_append_6 : decode (mC m_LW_append) 6 = .ok (.iload_n 3, 1) := by decide +kernel
theorem d_LW_append_7 : decode (mC m_LW_append) 7 = .ok (.iload 4, 2) := by decide +kernel
theorem d_LW_append_9 : decode (mC m_LW_append) 9 = .ok (.iload 5, 2) := by decide +kernel
theorem d_LW_append_11 : decode (mC m_LW_append) 11 = .ok (.invokevirtual 7, 3) := by decide +kernel
theorem d_LW_append_14 : decode (mC m_LW_append) 14 = .ok (.i2l, 1) := by decide +kernel
theorem d_LW_append_15 : decode (mC m_LW_append) 15 = .ok (.lastore, 1) := by decide +kernel
theorem d_LW_append_16 : decode (mC m_LW_append) 16 = .ok (.goto 7, 3) := by decide +kernel
theorem d_LW_append_19 : decode (mC m_LW_append) 19 = .ok (.astore 7, 2) := by decide +kernel
theorem d_LW_append_21 : decode (mC m_LW_append) 21 = .ok (.iconst 1, 1) := by decide +kernel
theorem d_LW_append_22 : decode (mC m_LW_append) 22 = .ok (.ireturn, 1) := by decide +kernel
theorem d_LW_append_23 : decode (mC m_LW_append) 23 = .ok (.iconst 0, 1) := by decide +kernel
theorem d_LW_append_24 : decode (mC m_LW_append) 24 = .ok (.ireturn, 1) := by decide +kernel
theorem hc_LW_append_1 : HC m_LW_append 11 "java/lang/IllegalStateException" 19 := ⟨[], (0, 16, 19, 13), [], rfl, (fun z hz => absurd hz List.not_mem_nil), ⟨by decide, by decide⟩, by decide, rfl, "java/lang/IllegalStateException", tg_3 200 rfl rfl, tn_3 207 rfl rfl⟩
def m_LW_truncate : Mt := (⟨"HonestScalesLaw", "truncate", "(LHonestScales;I[J)I"⟩, method_4_code, 4, (Option.some Jvm.ClassFile.FieldType.int), [((0 : Nat), (9 : Nat), (12 : Nat), (19 : Nat))], 32, 1043)
theorem mx_LW_truncate : MSX m_LW_truncate 3 := ⟨by decide, tg_4 40 rfl rfl, tg_1 0 rfl rfl, tg_4 41 rfl rfl, ⟨by decide, by decide, by decide +kernel⟩⟩
theorem st_LW_truncate_15 : ST m_LW_truncate 15 m_HS_truncate := ⟨tg_4 43 rfl rfl, by decide, by decide⟩
theorem d_LW_truncate_0 : decode (mC m_LW_truncate) 0 = .ok (.aload_n 2, 1) := by decide +kernel
theorem d_LW_truncate_1 : decode (mC m_LW_truncate) 1 = .ok (.iconst 0, 1) := by decide +kernel
theorem d_LW_truncate_2 : decode (mC m_LW_truncate) 2 = .ok (.aload_n 0, 1) := by decide +kernel
theorem d_LW_truncate_3 : decode (mC m_LW_truncate) 3 = .ok (.iload_n 1, 1) := by decide +kernel
theorem d_LW_truncate_4 : decode (mC m_LW_truncate) 4 = .ok (.invokevirtual 15, 3) := by decide +kernel
theorem d_LW_truncate_7 : decode (mC m_LW_truncate) 7 = .ok (.i2l, 1) := by decide +kernel
theorem d_LW_truncate_8 : decode (mC m_LW_truncate) 8 = .ok (.lastore, 1) := by decide +kernel
theorem d_LW_truncate_9 : decode (mC m_LW_truncate) 9 = .ok (.goto 6, 3) := by decide +kernel
theorem d_LW_truncate_12 : decode (mC m_LW_truncate) 12 = .ok (.astore_n 3, 1) := by decide +kernel
theorem d_LW_truncate_13 : decode (mC m_LW_truncate) 13 = .ok (.iconst 1, 1) := by decide +kernel
theorem d_LW_truncate_14 : decode (mC m_LW_truncate) 14 = .ok (.ireturn, 1) := by decide +kernel
theorem d_LW_truncate_15 : decode (mC m_LW_truncate) 15 = .ok (.iconst 0, 1) := by decide +kernel
theorem d_LW_truncate_16 : decode (mC m_LW_truncate) 16 = .ok (.ireturn, 1) := by decide +kernel
theorem hc_LW_truncate_1 : HC m_LW_truncate 4 "java/lang/IllegalArgumentException" 12 := ⟨[], (0, 9, 12, 19), [], rfl, (fun z hz => absurd hz List.not_mem_nil), ⟨by decide, by decide⟩, by decide, rfl, "java/lang/IllegalArgumentException", tg_4 42 rfl rfl, tn_4 52 rfl rfl⟩
def m_LW_loadSetup : Mt := (⟨"HonestScalesLaw", "loadSetup", "(LHonestScales;[J)I"⟩, method_5_code, 3, (Option.some Jvm.ClassFile.FieldType.int), [((0 : Nat), (8 : Nat), (11 : Nat), (19 : Nat))], 37, 1151)
theorem mx_LW_loadSetup : MSX m_LW_loadSetup 2 := ⟨by decide, tg_4 67 rfl rfl, tg_1 0 rfl rfl, tg_4 68 rfl rfl, ⟨by decide, by decide, by decide +kernel⟩⟩
theorem st_LW_loadSetup_21 : ST m_LW_loadSetup 21 m_HS_loadSetup := ⟨tg_4 69 rfl rfl, by decide, by decide⟩
theorem d_LW_loadSetup_0 : decode (mC m_LW_loadSetup) 0 = .ok (.aload_n 1, 1) := by decide +kernel
theorem d_LW_loadSetup_1 : decode (mC m_LW_loadSetup) 1 = .ok (.iconst 0, 1) := by decide +kernel
theorem d_LW_loadSetup_2 : decode (mC m_LW_loadSetup) 2 = .ok (.aload_n 0, 1) := by decide +kernel
theorem d_LW_loadSetup_3 : decode (mC m_LW_loadSetup) 3 = .ok (.invokevirtual 21, 3) := by decide +kernel
theorem d_LW_loadSetup_6 : decode (mC m_LW_loadSetup) 6 = .ok (.i2l, 1) := by decide +kernel
theorem d_LW_loadSetup_7 : decode (mC m_LW_loadSetup) 7 = .ok (.lastore, 1) := by decide +kernel
theorem d_LW_loadSetup_8 : decode (mC m_LW_loadSetup) 8 = .ok (.goto 6, 3) := by decide +kernel
theorem d_LW_loadSetup_11 : decode (mC m_LW_loadSetup) 11 = .ok (.astore_n 2, 1) := by decide +kernel
theorem d_LW_loadSetup_12 : decode (mC m_LW_loadSetup) 12 = .ok (.iconst 1, 1) := by decide +kernel
theorem d_LW_loadSetup_13 : decode (mC m_LW_loadSetup) 13 = .ok (.ireturn, 1) := by decide +kernel
theorem d_LW_loadSetup_14 : decode (mC m_LW_loadSetup) 14 = .ok (.iconst 0, 1) := by decide +kernel
theorem d_LW_loadSetup_15 : decode (mC m_LW_loadSetup) 15 = .ok (.ireturn, 1) := by decide +kernel
theorem hc_LW_loadSetup_1 : HC m_LW_loadSetup 3 "java/lang/IllegalArgumentException" 11 := ⟨[], (0, 8, 11, 19), [], rfl, (fun z hz => absurd hz List.not_mem_nil), ⟨by decide, by decide⟩, by decide, rfl, "java/lang/IllegalArgumentException", tg_4 42 rfl rfl, tn_4 52 rfl rfl⟩
def m_LW_runScript : Mt := (⟨"HonestScalesLaw", "runScript", "(LHonestScales;[J)I"⟩, method_6_code, 3, (Option.some Jvm.ClassFile.FieldType.int), [((0 : Nat), (8 : Nat), (11 : Nat), (19 : Nat))], 37, 1162)
theorem mx_LW_runScript : MSX m_LW_runScript 2 := ⟨by decide, tg_4 85 rfl rfl, tg_1 0 rfl rfl, tg_4 86 rfl rfl, ⟨by decide, by decide, by decide +kernel⟩⟩
theorem st_LW_runScript_25 : ST m_LW_runScript 25 m_HS_runScript := ⟨tg_4 87 rfl rfl, by decide, by decide⟩
theorem d_LW_runScript_0 : decode (mC m_LW_runScript) 0 = .ok (.aload_n 1, 1) := by decide +kernel
theorem d_LW_runScript_1 : decode (mC m_LW_runScript) 1 = .ok (.iconst 0, 1) := by decide +kernel
theorem d_LW_runScript_2 : decode (mC m_LW_runScript) 2 = .ok (.aload_n 0, 1) := by decide +kernel
theorem d_LW_runScript_3 : decode (mC m_LW_runScript) 3 = .ok (.invokevirtual 25, 3) := by decide +kernel
theorem d_LW_runScript_6 : decode (mC m_LW_runScript) 6 = .ok (.i2l, 1) := by decide +kernel
theorem d_LW_runScript_7 : decode (mC m_LW_runScript) 7 = .ok (.lastore, 1) := by decide +kernel
theorem d_LW_runScript_8 : decode (mC m_LW_runScript) 8 = .ok (.goto 6, 3) := by decide +kernel
theorem d_LW_runScript_11 : decode (mC m_LW_runScript) 11 = .ok (.astore_n 2, 1) := by decide +kernel
theorem d_LW_runScript_12 : decode (mC m_LW_runScript) 12 = .ok (.iconst 1, 1) := by decide +kernel
theorem d_LW_runScript_13 : decode (mC m_LW_runScript) 13 = .ok (.ireturn, 1) := by decide +kernel
theorem d_LW_runScript_14 : decode (mC m_LW_runScript) 14 = .ok (.iconst 0, 1) := by decide +kernel
theorem d_LW_runScript_15 : decode (mC m_LW_runScript) 15 = .ok (.ireturn, 1) := by decide +kernel
theorem hc_LW_runScript_1 : HC m_LW_runScript 3 "java/lang/IllegalArgumentException" 11 := ⟨[], (0, 8, 11, 19), [], rfl, (fun z hz => absurd hz List.not_mem_nil), ⟨by decide, by decide⟩, by decide, rfl, "java/lang/IllegalArgumentException", tg_4 42 rfl rfl, tn_4 52 rfl rfl⟩
def m_LW_passDays : Mt := (⟨"HonestScalesLaw", "passDays", "(LHonestScales;I[J)I"⟩, method_7_code, 4, (Option.some Jvm.ClassFile.FieldType.int), [((0 : Nat), (9 : Nat), (12 : Nat), (19 : Nat))], 36, 1136)
theorem mx_LW_passDays : MSX m_LW_passDays 3 := ⟨by decide, tg_4 161 rfl rfl, tg_1 0 rfl rfl, tg_4 162 rfl rfl, ⟨by decide, by decide, by decide +kernel⟩⟩
theorem st_LW_passDays_28 : ST m_LW_passDays 28 m_HS_passDays := ⟨tg_4 163 rfl rfl, by decide, by decide⟩
theorem d_LW_passDays_0 : decode (mC m_LW_passDays) 0 = .ok (.aload_n 2, 1) := by decide +kernel
theorem d_LW_passDays_1 : decode (mC m_LW_passDays) 1 = .ok (.iconst 0, 1) := by decide +kernel
theorem d_LW_passDays_2 : decode (mC m_LW_passDays) 2 = .ok (.aload_n 0, 1) := by decide +kernel
theorem d_LW_passDays_3 : decode (mC m_LW_passDays) 3 = .ok (.iload_n 1, 1) := by decide +kernel
theorem d_LW_passDays_4 : decode (mC m_LW_passDays) 4 = .ok (.invokevirtual 28, 3) := by decide +kernel
theorem d_LW_passDays_7 : decode (mC m_LW_passDays) 7 = .ok (.i2l, 1) := by decide +kernel
theorem d_LW_passDays_8 : decode (mC m_LW_passDays) 8 = .ok (.lastore, 1) := by decide +kernel
theorem d_LW_passDays_9 : decode (mC m_LW_passDays) 9 = .ok (.goto 6, 3) := by decide +kernel
theorem d_LW_passDays_12 : decode (mC m_LW_passDays) 12 = .ok (.astore_n 3, 1) := by decide +kernel
theorem d_LW_passDays_13 : decode (mC m_LW_passDays) 13 = .ok (.iconst 1, 1) := by decide +kernel
theorem d_LW_passDays_14 : decode (mC m_LW_passDays) 14 = .ok (.ireturn, 1) := by decide +kernel
theorem d_LW_passDays_15 : decode (mC m_LW_passDays) 15 = .ok (.iconst 0, 1) := by decide +kernel
theorem d_LW_passDays_16 : decode (mC m_LW_passDays) 16 = .ok (.ireturn, 1) := by decide +kernel
theorem hc_LW_passDays_1 : HC m_LW_passDays 4 "java/lang/IllegalArgumentException" 12 := ⟨[], (0, 9, 12, 19), [], rfl, (fun z hz => absurd hz List.not_mem_nil), ⟨by decide, by decide⟩, by decide, rfl, "java/lang/IllegalArgumentException", tg_4 42 rfl rfl, tn_4 52 rfl rfl⟩
def m_LW_visit : Mt := (⟨"HonestScalesLaw", "visit", "(LHonestScales;I[J)I"⟩, method_8_code, 4, (Option.some Jvm.ClassFile.FieldType.int), [((0 : Nat), (9 : Nat), (12 : Nat), (34 : Nat)), ((0 : Nat), (9 : Nat), (15 : Nat), (13 : Nat))], 35, 1112)
theorem mx_LW_visit : MSX m_LW_visit 3 := ⟨by decide, tg_4 169 rfl rfl, tg_1 0 rfl rfl, tg_4 170 rfl rfl, ⟨by decide, by decide, by decide +kernel⟩⟩
theorem st_LW_visit_31 : ST m_LW_visit 31 m_HS_visit := ⟨tg_4 172 rfl rfl, by decide, by decide⟩
theorem d_LW_visit_0 : decode (mC m_LW_visit) 0 = .ok (.aload_n 2, 1) := by decide +kernel
theorem d_LW_visit_1 : decode (mC m_LW_visit) 1 = .ok (.iconst 0, 1) := by decide +kernel
theorem d_LW_visit_2 : decode (mC m_LW_visit) 2 = .ok (.aload_n 0, 1) := by decide +kernel
theorem d_LW_visit_3 : decode (mC m_LW_visit) 3 = .ok (.iload_n 1, 1) := by decide +kernel
theorem d_LW_visit_4 : decode (mC m_LW_visit) 4 = .ok (.invokevirtual 31, 3) := by decide +kernel
theorem d_LW_visit_7 : decode (mC m_LW_visit) 7 = .ok (.i2l, 1) := by decide +kernel
theorem d_LW_visit_8 : decode (mC m_LW_visit) 8 = .ok (.lastore, 1) := by decide +kernel
theorem d_LW_visit_9 : decode (mC m_LW_visit) 9 = .ok (.goto 9, 3) := by decide +kernel
theorem d_LW_visit_12 : decode (mC m_LW_visit) 12 = .ok (.astore_n 3, 1) := by decide +kernel
theorem d_LW_visit_13 : decode (mC m_LW_visit) 13 = .ok (.iconst 1, 1) := by decide +kernel
theorem d_LW_visit_14 : decode (mC m_LW_visit) 14 = .ok (.ireturn, 1) := by decide +kernel
theorem d_LW_visit_15 : decode (mC m_LW_visit) 15 = .ok (.astore_n 3, 1) := by decide +kernel
theorem d_LW_visit_16 : decode (mC m_LW_visit) 16 = .ok (.iconst 2, 1) := by decide +kernel
theorem d_LW_visit_17 : decode (mC m_LW_visit) 17 = .ok (.ireturn, 1) := by decide +kernel
theorem d_LW_visit_18 : decode (mC m_LW_visit) 18 = .ok (.iconst 0, 1) := by decide +kernel
theorem d_LW_visit_19 : decode (mC m_LW_visit) 19 = .ok (.ireturn, 1) := by decide +kernel
theorem hc_LW_visit_1 : HC m_LW_visit 4 "java/lang/IndexOutOfBoundsException" 12 := ⟨[], (0, 9, 12, 34), [(0, 9, 15, 13)], rfl, (fun z hz => absurd hz List.not_mem_nil), ⟨by decide, by decide⟩, by decide, rfl, "java/lang/IndexOutOfBoundsException", tg_4 171 rfl rfl, tn_4 186 rfl rfl⟩
theorem hc_LW_visit_2 : HC m_LW_visit 4 "java/lang/IllegalStateException" 15 := ⟨[(0, 9, 12, 34)], (0, 9, 15, 13), [], rfl, (fun z hz => by
    simp only [List.mem_cons, List.not_mem_nil, or_false] at hz
    subst hz
    exact ⟨by decide, "java/lang/IndexOutOfBoundsException", tg_4 171 rfl rfl, by decide⟩), ⟨by decide, by decide⟩, by decide, rfl, "java/lang/IllegalStateException", tg_3 200 rfl rfl, tn_3 207 rfl rfl⟩
def m_LW_repair : Mt := (⟨"HonestScalesLaw", "repair", "(LHonestScales;I[J)I"⟩, method_9_code, 4, (Option.some Jvm.ClassFile.FieldType.int), [((0 : Nat), (9 : Nat), (12 : Nat), (34 : Nat)), ((0 : Nat), (9 : Nat), (15 : Nat), (13 : Nat))], 34, 1086)
theorem mx_LW_repair : MSX m_LW_repair 3 := ⟨by decide, tg_4 206 rfl rfl, tg_1 0 rfl rfl, tg_4 207 rfl rfl, ⟨by decide, by decide, by decide +kernel⟩⟩
theorem st_LW_repair_36 : ST m_LW_repair 36 m_HS_repair := ⟨tg_4 208 rfl rfl, by decide, by decide⟩
theorem d_LW_repair_0 : decode (mC m_LW_repair) 0 = .ok (.aload_n 2, 1) := by decide +kernel
theorem d_LW_repair_1 : decode (mC m_LW_repair) 1 = .ok (.iconst 0, 1) := by decide +kernel
theorem d_LW_repair_2 : decode (mC m_LW_repair) 2 = .ok (.aload_n 0, 1) := by decide +kernel
theorem d_LW_repair_3 : decode (mC m_LW_repair) 3 = .ok (.iload_n 1, 1) := by decide +kernel
theorem d_LW_repair_4 : decode (mC m_LW_repair) 4 = .ok (.invokevirtual 36, 3) := by decide +kernel
theorem d_LW_repair_7 : decode (mC m_LW_repair) 7 = .ok (.i2l, 1) := by decide +kernel
theorem d_LW_repair_8 : decode (mC m_LW_repair) 8 = .ok (.lastore, 1) := by decide +kernel
theorem d_LW_repair_9 : decode (mC m_LW_repair) 9 = .ok (.goto 9, 3) := by decide +kernel
theorem d_LW_repair_12 : decode (mC m_LW_repair) 12 = .ok (.astore_n 3, 1) := by decide +kernel
theorem d_LW_repair_13 : decode (mC m_LW_repair) 13 = .ok (.iconst 1, 1) := by decide +kernel
theorem d_LW_repair_14 : decode (mC m_LW_repair) 14 = .ok (.ireturn, 1) := by decide +kernel
theorem d_LW_repair_15 : decode (mC m_LW_repair) 15 = .ok (.astore_n 3, 1) := by decide +kernel
theorem d_LW_repair_16 : decode (mC m_LW_repair) 16 = .ok (.iconst 2, 1) := by decide +kernel
theorem d_LW_repair_17 : decode (mC m_LW_repair) 17 = .ok (.ireturn, 1) := by decide +kernel
theorem d_LW_repair_18 : decode (mC m_LW_repair) 18 = .ok (.iconst 0, 1) := by decide +kernel
theorem d_LW_repair_19 : decode (mC m_LW_repair) 19 = .ok (.ireturn, 1) := by decide +kernel
theorem hc_LW_repair_1 : HC m_LW_repair 4 "java/lang/IndexOutOfBoundsException" 12 := ⟨[], (0, 9, 12, 34), [(0, 9, 15, 13)], rfl, (fun z hz => absurd hz List.not_mem_nil), ⟨by decide, by decide⟩, by decide, rfl, "java/lang/IndexOutOfBoundsException", tg_4 171 rfl rfl, tn_4 186 rfl rfl⟩
theorem hc_LW_repair_2 : HC m_LW_repair 4 "java/lang/IllegalStateException" 15 := ⟨[(0, 9, 12, 34)], (0, 9, 15, 13), [], rfl, (fun z hz => by
    simp only [List.mem_cons, List.not_mem_nil, or_false] at hz
    subst hz
    exact ⟨by decide, "java/lang/IndexOutOfBoundsException", tg_4 171 rfl rfl, by decide⟩), ⟨by decide, by decide⟩, by decide, rfl, "java/lang/IllegalStateException", tg_3 200 rfl rfl, tn_3 207 rfl rfl⟩
def m_LW_setThumb : Mt := (⟨"HonestScalesLaw", "setThumb", "(LHonestScales;II[J)I"⟩, method_10_code, 5, (Option.some Jvm.ClassFile.FieldType.int), [((0 : Nat), (10 : Nat), (13 : Nat), (34 : Nat)), ((0 : Nat), (10 : Nat), (17 : Nat), (19 : Nat))], 34, 1088)
theorem mx_LW_setThumb : MSX m_LW_setThumb 4 := ⟨by decide, tg_4 215 rfl rfl, tg_1 0 rfl rfl, tg_4 216 rfl rfl, ⟨by decide, by decide, by decide +kernel⟩⟩
theorem st_LW_setThumb_39 : ST m_LW_setThumb 39 m_HS_setThumb := ⟨tg_4 217 rfl rfl, by decide, by decide⟩
theorem d_LW_setThumb_0 : decode (mC m_LW_setThumb) 0 = .ok (.aload_n 3, 1) := by decide +kernel
theorem d_LW_setThumb_1 : decode (mC m_LW_setThumb) 1 = .ok (.iconst 0, 1) := by decide +kernel
theorem d_LW_setThumb_2 : decode (mC m_LW_setThumb) 2 = .ok (.aload_n 0, 1) := by decide +kernel
theorem d_LW_setThumb_3 : decode (mC m_LW_setThumb) 3 = .ok (.iload_n 1, 1) := by decide +kernel
theorem d_LW_setThumb_4 : decode (mC m_LW_setThumb) 4 = .ok (.iload_n 2, 1) := by decide +kernel
theorem d_LW_setThumb_5 : decode (mC m_LW_setThumb) 5 = .ok (.invokevirtual 39, 3) := by decide +kernel
theorem d_LW_setThumb_8 : decode (mC m_LW_setThumb) 8 = .ok (.i2l, 1) := by decide +kernel
theorem d_LW_setThumb_9 : decode (mC m_LW_setThumb) 9 = .ok (.lastore, 1) := by decide +kernel
theorem d_LW_setThumb_10 : decode (mC m_LW_setThumb) 10 = .ok (.goto 11, 3) := by decide +kernel
theorem d_LW_setThumb_13 : decode (mC m_LW_setThumb) 13 = .ok (.astore 4, 2) := by decide +kernel
theorem d_LW_setThumb_15 : decode (mC m_LW_setThumb) 15 = .ok (.iconst 1, 1) := by decide +kernel
theorem d_LW_setThumb_16 : decode (mC m_LW_setThumb) 16 = .ok (.ireturn, 1) := by decide +kernel
theorem d_LW_setThumb_17 : decode (mC m_LW_setThumb) 17 = .ok (.astore 4, 2) := by decide +kernel
theorem d_LW_setThumb_19 : decode (mC m_LW_setThumb) 19 = .ok (.iconst 2, 1) := by decide +kernel
theorem d_LW_setThumb_20 : decode (mC m_LW_setThumb) 20 = .ok (.ireturn, 1) := by decide +kernel
theorem d_LW_setThumb_21 : decode (mC m_LW_setThumb) 21 = .ok (.iconst 0, 1) := by decide +kernel
theorem d_LW_setThumb_22 : decode (mC m_LW_setThumb) 22 = .ok (.ireturn, 1) := by decide +kernel
theorem hc_LW_setThumb_1 : HC m_LW_setThumb 5 "java/lang/IndexOutOfBoundsException" 13 := ⟨[], (0, 10, 13, 34), [(0, 10, 17, 19)], rfl, (fun z hz => absurd hz List.not_mem_nil), ⟨by decide, by decide⟩, by decide, rfl, "java/lang/IndexOutOfBoundsException", tg_4 171 rfl rfl, tn_4 186 rfl rfl⟩
theorem hc_LW_setThumb_2 : HC m_LW_setThumb 5 "java/lang/IllegalArgumentException" 17 := ⟨[(0, 10, 13, 34)], (0, 10, 17, 19), [], rfl, (fun z hz => by
    simp only [List.mem_cons, List.not_mem_nil, or_false] at hz
    subst hz
    exact ⟨by decide, "java/lang/IndexOutOfBoundsException", tg_4 171 rfl rfl, by decide⟩), ⟨by decide, by decide⟩, by decide, rfl, "java/lang/IllegalArgumentException", tg_4 42 rfl rfl, tn_4 52 rfl rfl⟩
def m_LW_complain : Mt := (⟨"HonestScalesLaw", "complain", "(LHonestScales;I[J)I"⟩, method_11_code, 4, (Option.some Jvm.ClassFile.FieldType.int), [((0 : Nat), (9 : Nat), (12 : Nat), (34 : Nat)), ((0 : Nat), (9 : Nat), (15 : Nat), (13 : Nat))], 34, 1086)
theorem mx_LW_complain : MSX m_LW_complain 3 := ⟨by decide, tg_4 222 rfl rfl, tg_1 0 rfl rfl, tg_4 223 rfl rfl, ⟨by decide, by decide, by decide +kernel⟩⟩
theorem st_LW_complain_43 : ST m_LW_complain 43 m_HS_complain := ⟨tg_4 224 rfl rfl, by decide, by decide⟩
theorem d_LW_complain_0 : decode (mC m_LW_complain) 0 = .ok (.aload_n 2, 1) := by decide +kernel
theorem d_LW_complain_1 : decode (mC m_LW_complain) 1 = .ok (.iconst 0, 1) := by decide +kernel
theorem d_LW_complain_2 : decode (mC m_LW_complain) 2 = .ok (.aload_n 0, 1) := by decide +kernel
theorem d_LW_complain_3 : decode (mC m_LW_complain) 3 = .ok (.iload_n 1, 1) := by decide +kernel
theorem d_LW_complain_4 : decode (mC m_LW_complain) 4 = .ok (.invokevirtual 43, 3) := by decide +kernel
theorem d_LW_complain_7 : decode (mC m_LW_complain) 7 = .ok (.i2l, 1) := by decide +kernel
theorem d_LW_complain_8 : decode (mC m_LW_complain) 8 = .ok (.lastore, 1) := by decide +kernel
theorem d_LW_complain_9 : decode (mC m_LW_complain) 9 = .ok (.goto 9, 3) := by decide +kernel
theorem d_LW_complain_12 : decode (mC m_LW_complain) 12 = .ok (.astore_n 3, 1) := by decide +kernel
theorem d_LW_complain_13 : decode (mC m_LW_complain) 13 = .ok (.iconst 1, 1) := by decide +kernel
theorem d_LW_complain_14 : decode (mC m_LW_complain) 14 = .ok (.ireturn, 1) := by decide +kernel
theorem d_LW_complain_15 : decode (mC m_LW_complain) 15 = .ok (.astore_n 3, 1) := by decide +kernel
theorem d_LW_complain_16 : decode (mC m_LW_complain) 16 = .ok (.iconst 2, 1) := by decide +kernel
theorem d_LW_complain_17 : decode (mC m_LW_complain) 17 = .ok (.ireturn, 1) := by decide +kernel
theorem d_LW_complain_18 : decode (mC m_LW_complain) 18 = .ok (.iconst 0, 1) := by decide +kernel
theorem d_LW_complain_19 : decode (mC m_LW_complain) 19 = .ok (.ireturn, 1) := by decide +kernel
theorem hc_LW_complain_1 : HC m_LW_complain 4 "java/lang/IndexOutOfBoundsException" 12 := ⟨[], (0, 9, 12, 34), [(0, 9, 15, 13)], rfl, (fun z hz => absurd hz List.not_mem_nil), ⟨by decide, by decide⟩, by decide, rfl, "java/lang/IndexOutOfBoundsException", tg_4 171 rfl rfl, tn_4 186 rfl rfl⟩
theorem hc_LW_complain_2 : HC m_LW_complain 4 "java/lang/IllegalStateException" 15 := ⟨[(0, 9, 12, 34)], (0, 9, 15, 13), [], rfl, (fun z hz => by
    simp only [List.mem_cons, List.not_mem_nil, or_false] at hz
    subst hz
    exact ⟨by decide, "java/lang/IndexOutOfBoundsException", tg_4 171 rfl rfl, by decide⟩), ⟨by decide, by decide⟩, by decide, rfl, "java/lang/IllegalStateException", tg_3 200 rfl rfl, tn_3 207 rfl rfl⟩
def m_LW_reopen : Mt := (⟨"HonestScalesLaw", "reopen", "(LHonestScales;I[J)I"⟩, method_12_code, 4, (Option.some Jvm.ClassFile.FieldType.int), [((0 : Nat), (9 : Nat), (12 : Nat), (34 : Nat)), ((0 : Nat), (9 : Nat), (15 : Nat), (13 : Nat))], 34, 1086)
theorem mx_LW_reopen : MSX m_LW_reopen 3 := ⟨by decide, tg_4 229 rfl rfl, tg_1 0 rfl rfl, tg_4 230 rfl rfl, ⟨by decide, by decide, by decide +kernel⟩⟩
theorem st_LW_reopen_46 : ST m_LW_reopen 46 m_HS_reopen := ⟨tg_4 231 rfl rfl, by decide, by decide⟩
theorem d_LW_reopen_0 : decode (mC m_LW_reopen) 0 = .ok (.aload_n 2, 1) := by decide +kernel
theorem d_LW_reopen_1 : decode (mC m_LW_reopen) 1 = .ok (.iconst 0, 1) := by decide +kernel
theorem d_LW_reopen_2 : decode (mC m_LW_reopen) 2 = .ok (.aload_n 0, 1) := by decide +kernel
theorem d_LW_reopen_3 : decode (mC m_LW_reopen) 3 = .ok (.iload_n 1, 1) := by decide +kernel
theorem d_LW_reopen_4 : decode (mC m_LW_reopen) 4 = .ok (.invokevirtual 46, 3) := by decide +kernel
theorem d_LW_reopen_7 : decode (mC m_LW_reopen) 7 = .ok (.i2l, 1) := by decide +kernel
theorem d_LW_reopen_8 : decode (mC m_LW_reopen) 8 = .ok (.lastore, 1) := by decide +kernel
theorem d_LW_reopen_9 : decode (mC m_LW_reopen) 9 = .ok (.goto 9, 3) := by decide +kernel
theorem d_LW_reopen_12 : decode (mC m_LW_reopen) 12 = .ok (.astore_n 3, 1) := by decide +kernel
theorem d_LW_reopen_13 : decode (mC m_LW_reopen) 13 = .ok (.iconst 1, 1) := by decide +kernel
theorem d_LW_reopen_14 : decode (mC m_LW_reopen) 14 = .ok (.ireturn, 1) := by decide +kernel
theorem d_LW_reopen_15 : decode (mC m_LW_reopen) 15 = .ok (.astore_n 3, 1) := by decide +kernel
theorem d_LW_reopen_16 : decode (mC m_LW_reopen) 16 = .ok (.iconst 2, 1) := by decide +kernel
theorem d_LW_reopen_17 : decode (mC m_LW_reopen) 17 = .ok (.ireturn, 1) := by decide +kernel
theorem d_LW_reopen_18 : decode (mC m_LW_reopen) 18 = .ok (.iconst 0, 1) := by decide +kernel
theorem d_LW_reopen_19 : decode (mC m_LW_reopen) 19 = .ok (.ireturn, 1) := by decide +kernel
theorem hc_LW_reopen_1 : HC m_LW_reopen 4 "java/lang/IndexOutOfBoundsException" 12 := ⟨[], (0, 9, 12, 34), [(0, 9, 15, 13)], rfl, (fun z hz => absurd hz List.not_mem_nil), ⟨by decide, by decide⟩, by decide, rfl, "java/lang/IndexOutOfBoundsException", tg_4 171 rfl rfl, tn_4 186 rfl rfl⟩
theorem hc_LW_reopen_2 : HC m_LW_reopen 4 "java/lang/IllegalStateException" 15 := ⟨[(0, 9, 12, 34)], (0, 9, 15, 13), [], rfl, (fun z hz => by
    simp only [List.mem_cons, List.not_mem_nil, or_false] at hz
    subst hz
    exact ⟨by decide, "java/lang/IndexOutOfBoundsException", tg_4 171 rfl rfl, by decide⟩), ⟨by decide, by decide⟩, by decide, rfl, "java/lang/IllegalStateException", tg_3 200 rfl rfl, tn_3 207 rfl rfl⟩
def m_LW_setInspectors : Mt := (⟨"HonestScalesLaw", "setInspectors", "(LHonestScales;I[J)I"⟩, method_13_code, 4, (Option.some Jvm.ClassFile.FieldType.int), [((0 : Nat), (9 : Nat), (12 : Nat), (19 : Nat))], 34, 1086)
theorem mx_LW_setInspectors : MSX m_LW_setInspectors 3 := ⟨by decide, tg_4 237 rfl rfl, tg_1 0 rfl rfl, tg_4 238 rfl rfl, ⟨by decide, by decide, by decide +kernel⟩⟩
theorem st_LW_setInspectors_49 : ST m_LW_setInspectors 49 m_HS_setInspectors := ⟨tg_4 239 rfl rfl, by decide, by decide⟩
theorem d_LW_setInspectors_0 : decode (mC m_LW_setInspectors) 0 = .ok (.aload_n 2, 1) := by decide +kernel
theorem d_LW_setInspectors_1 : decode (mC m_LW_setInspectors) 1 = .ok (.iconst 0, 1) := by decide +kernel
theorem d_LW_setInspectors_2 : decode (mC m_LW_setInspectors) 2 = .ok (.aload_n 0, 1) := by decide +kernel
theorem d_LW_setInspectors_3 : decode (mC m_LW_setInspectors) 3 = .ok (.iload_n 1, 1) := by decide +kernel
theorem d_LW_setInspectors_4 : decode (mC m_LW_setInspectors) 4 = .ok (.invokevirtual 49, 3) := by decide +kernel
theorem d_LW_setInspectors_7 : decode (mC m_LW_setInspectors) 7 = .ok (.i2l, 1) := by decide +kernel
theorem d_LW_setInspectors_8 : decode (mC m_LW_setInspectors) 8 = .ok (.lastore, 1) := by decide +kernel
theorem d_LW_setInspectors_9 : decode (mC m_LW_setInspectors) 9 = .ok (.goto 6, 3) := by decide +kernel
theorem d_LW_setInspectors_12 : decode (mC m_LW_setInspectors) 12 = .ok (.astore_n 3, 1) := by decide +kernel
theorem d_LW_setInspectors_13 : decode (mC m_LW_setInspectors) 13 = .ok (.iconst 1, 1) := by decide +kernel
theorem d_LW_setInspectors_14 : decode (mC m_LW_setInspectors) 14 = .ok (.ireturn, 1) := by decide +kernel
theorem d_LW_setInspectors_15 : decode (mC m_LW_setInspectors) 15 = .ok (.iconst 0, 1) := by decide +kernel
theorem d_LW_setInspectors_16 : decode (mC m_LW_setInspectors) 16 = .ok (.ireturn, 1) := by decide +kernel
theorem hc_LW_setInspectors_1 : HC m_LW_setInspectors 4 "java/lang/IllegalArgumentException" 12 := ⟨[], (0, 9, 12, 19), [], rfl, (fun z hz => absurd hz List.not_mem_nil), ⟨by decide, by decide⟩, by decide, rfl, "java/lang/IllegalArgumentException", tg_4 42 rfl rfl, tn_4 52 rfl rfl⟩
def m_LW_setFee : Mt := (⟨"HonestScalesLaw", "setFee", "(LHonestScales;I[J)I"⟩, method_14_code, 4, (Option.some Jvm.ClassFile.FieldType.int), [((0 : Nat), (9 : Nat), (12 : Nat), (19 : Nat))], 34, 1086)
theorem mx_LW_setFee : MSX m_LW_setFee 3 := ⟨by decide, tg_5 4 rfl rfl, tg_1 0 rfl rfl, tg_5 5 rfl rfl, ⟨by decide, by decide, by decide +kernel⟩⟩
theorem st_LW_setFee_52 : ST m_LW_setFee 52 m_HS_setFee := ⟨tg_5 6 rfl rfl, by decide, by decide⟩
theorem d_LW_setFee_0 : decode (mC m_LW_setFee) 0 = .ok (.aload_n 2, 1) := by decide +kernel
theorem d_LW_setFee_1 : decode (mC m_LW_setFee) 1 = .ok (.iconst 0, 1) := by decide +kernel
theorem d_LW_setFee_2 : decode (mC m_LW_setFee) 2 = .ok (.aload_n 0, 1) := by decide +kernel
theorem d_LW_setFee_3 : decode (mC m_LW_setFee) 3 = .ok (.iload_n 1, 1) := by decide +kernel
theorem d_LW_setFee_4 : decode (mC m_LW_setFee) 4 = .ok (.invokevirtual 52, 3) := by decide +kernel
theorem d_LW_setFee_7 : decode (mC m_LW_setFee) 7 = .ok (.i2l, 1) := by decide +kernel
theorem d_LW_setFee_8 : decode (mC m_LW_setFee) 8 = .ok (.lastore, 1) := by decide +kernel
theorem d_LW_setFee_9 : decode (mC m_LW_setFee) 9 = .ok (.goto 6, 3) := by decide +kernel
theorem d_LW_setFee_12 : decode (mC m_LW_setFee) 12 = .ok (.astore_n 3, 1) := by decide +kernel
theorem d_LW_setFee_13 : decode (mC m_LW_setFee) 13 = .ok (.iconst 1, 1) := by decide +kernel
theorem d_LW_setFee_14 : decode (mC m_LW_setFee) 14 = .ok (.ireturn, 1) := by decide +kernel
theorem d_LW_setFee_15 : decode (mC m_LW_setFee) 15 = .ok (.iconst 0, 1) := by decide +kernel
theorem d_LW_setFee_16 : decode (mC m_LW_setFee) 16 = .ok (.ireturn, 1) := by decide +kernel
theorem hc_LW_setFee_1 : HC m_LW_setFee 4 "java/lang/IllegalArgumentException" 12 := ⟨[], (0, 9, 12, 19), [], rfl, (fun z hz => absurd hz List.not_mem_nil), ⟨by decide, by decide⟩, by decide, rfl, "java/lang/IllegalArgumentException", tg_4 42 rfl rfl, tn_4 52 rfl rfl⟩
def m_LW_undo : Mt := (⟨"HonestScalesLaw", "undo", "(LHonestScales;[J)I"⟩, method_15_code, 3, (Option.some Jvm.ClassFile.FieldType.int), [((0 : Nat), (8 : Nat), (11 : Nat), (58 : Nat))], 34, 1085)
theorem mx_LW_undo : MSX m_LW_undo 2 := ⟨by decide, tg_5 11 rfl rfl, tg_1 0 rfl rfl, tg_5 12 rfl rfl, ⟨by decide, by decide, by decide +kernel⟩⟩
theorem st_LW_undo_55 : ST m_LW_undo 55 m_HS_undo := ⟨tg_5 14 rfl rfl, by decide, by decide⟩
theorem d_LW_undo_0 : decode (mC m_LW_undo) 0 = .ok (.aload_n 1, 1) := by decide +kernel
theorem d_LW_undo_1 : decode (mC m_LW_undo) 1 = .ok (.iconst 0, 1) := by decide +kernel
theorem d_LW_undo_2 : decode (mC m_LW_undo) 2 = .ok (.aload_n 0, 1) := by decide +kernel
theorem d_LW_undo_3 : decode (mC m_LW_undo) 3 = .ok (.invokevirtual 55, 3) := by decide +kernel
theorem d_LW_undo_6 : decode (mC m_LW_undo) 6 = .ok (.i2l, 1) := by decide +kernel
theorem d_LW_undo_7 : decode (mC m_LW_undo) 7 = .ok (.lastore, 1) := by decide +kernel
theorem d_LW_undo_8 : decode (mC m_LW_undo) 8 = .ok (.goto 6, 3) := by decide +kernel
theorem d_LW_undo_11 : decode (mC m_LW_undo) 11 = .ok (.astore_n 2, 1) := by decide +kernel
theorem d_LW_undo_12 : decode (mC m_LW_undo) 12 = .ok (.iconst 1, 1) := by decide +kernel
theorem d_LW_undo_13 : decode (mC m_LW_undo) 13 = .ok (.ireturn, 1) := by decide +kernel
theorem d_LW_undo_14 : decode (mC m_LW_undo) 14 = .ok (.iconst 0, 1) := by decide +kernel
theorem d_LW_undo_15 : decode (mC m_LW_undo) 15 = .ok (.ireturn, 1) := by decide +kernel
theorem hc_LW_undo_1 : HC m_LW_undo 3 "java/util/NoSuchElementException" 11 := ⟨[], (0, 8, 11, 58), [], rfl, (fun z hz => absurd hz List.not_mem_nil), ⟨by decide, by decide⟩, by decide, rfl, "java/util/NoSuchElementException", tg_5 13 rfl rfl, tn_5 24 rfl rfl⟩
def m_LW_saveSnapshot : Mt := (⟨"HonestScalesLaw", "saveSnapshot", "(LHonestScales;I)I"⟩, method_16_code, 3, (Option.some Jvm.ClassFile.FieldType.int), [((0 : Nat), (5 : Nat), (8 : Nat), (19 : Nat))], 33, 1064)
theorem mx_LW_saveSnapshot : MSX m_LW_saveSnapshot 2 := ⟨by decide, tg_5 39 rfl rfl, tg_1 0 rfl rfl, tg_5 40 rfl rfl, ⟨by decide, by decide, by decide +kernel⟩⟩
theorem st_LW_saveSnapshot_60 : ST m_LW_saveSnapshot 60 m_HS_saveSnapshot := ⟨tg_5 41 rfl rfl, by decide, by decide⟩
theorem d_LW_saveSnapshot_0 : decode (mC m_LW_saveSnapshot) 0 = .ok (.aload_n 0, 1) := by decide +kernel
theorem d_LW_saveSnapshot_1 : decode (mC m_LW_saveSnapshot) 1 = .ok (.iload_n 1, 1) := by decide +kernel
theorem d_LW_saveSnapshot_2 : decode (mC m_LW_saveSnapshot) 2 = .ok (.invokevirtual 60, 3) := by decide +kernel
theorem d_LW_saveSnapshot_5 : decode (mC m_LW_saveSnapshot) 5 = .ok (.goto 6, 3) := by decide +kernel
theorem d_LW_saveSnapshot_8 : decode (mC m_LW_saveSnapshot) 8 = .ok (.astore_n 2, 1) := by decide +kernel
theorem d_LW_saveSnapshot_9 : decode (mC m_LW_saveSnapshot) 9 = .ok (.iconst 1, 1) := by decide +kernel
theorem d_LW_saveSnapshot_10 : decode (mC m_LW_saveSnapshot) 10 = .ok (.ireturn, 1) := by decide +kernel
theorem d_LW_saveSnapshot_11 : decode (mC m_LW_saveSnapshot) 11 = .ok (.iconst 0, 1) := by decide +kernel
theorem d_LW_saveSnapshot_12 : decode (mC m_LW_saveSnapshot) 12 = .ok (.ireturn, 1) := by decide +kernel
theorem hc_LW_saveSnapshot_1 : HC m_LW_saveSnapshot 2 "java/lang/IllegalArgumentException" 8 := ⟨[], (0, 5, 8, 19), [], rfl, (fun z hz => absurd hz List.not_mem_nil), ⟨by decide, by decide⟩, by decide, rfl, "java/lang/IllegalArgumentException", tg_4 42 rfl rfl, tn_4 52 rfl rfl⟩
def m_LW_restoreSnapshot : Mt := (⟨"HonestScalesLaw", "restoreSnapshot", "(LHonestScales;I[J)I"⟩, method_17_code, 4, (Option.some Jvm.ClassFile.FieldType.int), [((0 : Nat), (9 : Nat), (12 : Nat), (19 : Nat)), ((0 : Nat), (9 : Nat), (15 : Nat), (58 : Nat))], 34, 1086)
theorem mx_LW_restoreSnapshot : MSX m_LW_restoreSnapshot 3 := ⟨by decide, tg_5 46 rfl rfl, tg_1 0 rfl rfl, tg_5 47 rfl rfl, ⟨by decide, by decide, by decide +kernel⟩⟩
theorem st_LW_restoreSnapshot_64 : ST m_LW_restoreSnapshot 64 m_HS_restoreSnapshot := ⟨tg_5 48 rfl rfl, by decide, by decide⟩
theorem d_LW_restoreSnapshot_0 : decode (mC m_LW_restoreSnapshot) 0 = .ok (.aload_n 2, 1) := by decide +kernel
theorem d_LW_restoreSnapshot_1 : decode (mC m_LW_restoreSnapshot) 1 = .ok (.iconst 0, 1) := by decide +kernel
theorem d_LW_restoreSnapshot_2 : decode (mC m_LW_restoreSnapshot) 2 = .ok (.aload_n 0, 1) := by decide +kernel
theorem d_LW_restoreSnapshot_3 : decode (mC m_LW_restoreSnapshot) 3 = .ok (.iload_n 1, 1) := by decide +kernel
theorem d_LW_restoreSnapshot_4 : decode (mC m_LW_restoreSnapshot) 4 = .ok (.invokevirtual 64, 3) := by decide +kernel
theorem d_LW_restoreSnapshot_7 : decode (mC m_LW_restoreSnapshot) 7 = .ok (.i2l, 1) := by decide +kernel
theorem d_LW_restoreSnapshot_8 : decode (mC m_LW_restoreSnapshot) 8 = .ok (.lastore, 1) := by decide +kernel
theorem d_LW_restoreSnapshot_9 : decode (mC m_LW_restoreSnapshot) 9 = .ok (.goto 9, 3) := by decide +kernel
theorem d_LW_restoreSnapshot_12 : decode (mC m_LW_restoreSnapshot) 12 = .ok (.astore_n 3, 1) := by decide +kernel
theorem d_LW_restoreSnapshot_13 : decode (mC m_LW_restoreSnapshot) 13 = .ok (.iconst 1, 1) := by decide +kernel
theorem d_LW_restoreSnapshot_14 : decode (mC m_LW_restoreSnapshot) 14 = .ok (.ireturn, 1) := by decide +kernel
theorem d_LW_restoreSnapshot_15 : decode (mC m_LW_restoreSnapshot) 15 = .ok (.astore_n 3, 1) := by decide +kernel
theorem d_LW_restoreSnapshot_16 : decode (mC m_LW_restoreSnapshot) 16 = .ok (.iconst 2, 1) := by decide +kernel
theorem d_LW_restoreSnapshot_17 : decode (mC m_LW_restoreSnapshot) 17 = .ok (.ireturn, 1) := by decide +kernel
theorem d_LW_restoreSnapshot_18 : decode (mC m_LW_restoreSnapshot) 18 = .ok (.iconst 0, 1) := by decide +kernel
theorem d_LW_restoreSnapshot_19 : decode (mC m_LW_restoreSnapshot) 19 = .ok (.ireturn, 1) := by decide +kernel
theorem hc_LW_restoreSnapshot_1 : HC m_LW_restoreSnapshot 4 "java/lang/IllegalArgumentException" 12 := ⟨[], (0, 9, 12, 19), [(0, 9, 15, 58)], rfl, (fun z hz => absurd hz List.not_mem_nil), ⟨by decide, by decide⟩, by decide, rfl, "java/lang/IllegalArgumentException", tg_4 42 rfl rfl, tn_4 52 rfl rfl⟩
theorem hc_LW_restoreSnapshot_2 : HC m_LW_restoreSnapshot 4 "java/util/NoSuchElementException" 15 := ⟨[(0, 9, 12, 19)], (0, 9, 15, 58), [], rfl, (fun z hz => by
    simp only [List.mem_cons, List.not_mem_nil, or_false] at hz
    subst hz
    exact ⟨by decide, "java/lang/IllegalArgumentException", tg_4 42 rfl rfl, by decide⟩), ⟨by decide, by decide⟩, by decide, rfl, "java/util/NoSuchElementException", tg_5 13 rfl rfl, tn_5 24 rfl rfl⟩
def m_LW_testWeight : Mt := (⟨"HonestScalesLaw", "testWeight", "(LHonestScales;I[J)I"⟩, method_18_code, 4, (Option.some Jvm.ClassFile.FieldType.int), [((0 : Nat), (9 : Nat), (12 : Nat), (34 : Nat))], 31, 1021)
theorem mx_LW_testWeight : MSX m_LW_testWeight 3 := ⟨by decide, tg_5 54 rfl rfl, tg_1 0 rfl rfl, tg_5 55 rfl rfl, ⟨by decide, by decide, by decide +kernel⟩⟩
theorem st_LW_testWeight_67 : ST m_LW_testWeight 67 m_HS_testWeight := ⟨tg_5 56 rfl rfl, by decide, by decide⟩
theorem d_LW_testWeight_0 : decode (mC m_LW_testWeight) 0 = .ok (.aload_n 2, 1) := by decide +kernel
theorem d_LW_testWeight_1 : decode (mC m_LW_testWeight) 1 = .ok (.iconst 0, 1) := by decide +kernel
theorem d_LW_testWeight_2 : decode (mC m_LW_testWeight) 2 = .ok (.aload_n 0, 1) := by decide +kernel
theorem d_LW_testWeight_3 : decode (mC m_LW_testWeight) 3 = .ok (.iload_n 1, 1) := by decide +kernel
theorem d_LW_testWeight_4 : decode (mC m_LW_testWeight) 4 = .ok (.invokevirtual 67, 3) := by decide +kernel
theorem d_LW_testWeight_7 : decode (mC m_LW_testWeight) 7 = .ok (.i2l, 1) := by decide +kernel
theorem d_LW_testWeight_8 : decode (mC m_LW_testWeight) 8 = .ok (.lastore, 1) := by decide +kernel
theorem d_LW_testWeight_9 : decode (mC m_LW_testWeight) 9 = .ok (.goto 6, 3) := by decide +kernel
theorem d_LW_testWeight_12 : decode (mC m_LW_testWeight) 12 = .ok (.astore_n 3, 1) := by decide +kernel
theorem d_LW_testWeight_13 : decode (mC m_LW_testWeight) 13 = .ok (.iconst 1, 1) := by decide +kernel
theorem d_LW_testWeight_14 : decode (mC m_LW_testWeight) 14 = .ok (.ireturn, 1) := by decide +kernel
theorem d_LW_testWeight_15 : decode (mC m_LW_testWeight) 15 = .ok (.iconst 0, 1) := by decide +kernel
theorem d_LW_testWeight_16 : decode (mC m_LW_testWeight) 16 = .ok (.ireturn, 1) := by decide +kernel
theorem hc_LW_testWeight_1 : HC m_LW_testWeight 4 "java/lang/IndexOutOfBoundsException" 12 := ⟨[], (0, 9, 12, 34), [], rfl, (fun z hz => absurd hz List.not_mem_nil), ⟨by decide, by decide⟩, by decide, rfl, "java/lang/IndexOutOfBoundsException", tg_4 171 rfl rfl, tn_4 186 rfl rfl⟩
def m_LW_bound : Mt := (⟨"HonestScalesLaw", "bound", "(LHonestScales;I[J)I"⟩, method_19_code, 4, (Option.some Jvm.ClassFile.FieldType.int), [((0 : Nat), (9 : Nat), (12 : Nat), (19 : Nat))], 32, 1043)
theorem mx_LW_bound : MSX m_LW_bound 3 := ⟨by decide, tg_5 62 rfl rfl, tg_1 0 rfl rfl, tg_5 63 rfl rfl, ⟨by decide, by decide, by decide +kernel⟩⟩
theorem st_LW_bound_70 : ST m_LW_bound 70 m_HS_bound := ⟨tg_5 64 rfl rfl, by decide, by decide⟩
theorem d_LW_bound_0 : decode (mC m_LW_bound) 0 = .ok (.aload_n 2, 1) := by decide +kernel
theorem d_LW_bound_1 : decode (mC m_LW_bound) 1 = .ok (.iconst 0, 1) := by decide +kernel
theorem d_LW_bound_2 : decode (mC m_LW_bound) 2 = .ok (.aload_n 0, 1) := by decide +kernel
theorem d_LW_bound_3 : decode (mC m_LW_bound) 3 = .ok (.iload_n 1, 1) := by decide +kernel
theorem d_LW_bound_4 : decode (mC m_LW_bound) 4 = .ok (.invokevirtual 70, 3) := by decide +kernel
theorem d_LW_bound_7 : decode (mC m_LW_bound) 7 = .ok (.i2l, 1) := by decide +kernel
theorem d_LW_bound_8 : decode (mC m_LW_bound) 8 = .ok (.lastore, 1) := by decide +kernel
theorem d_LW_bound_9 : decode (mC m_LW_bound) 9 = .ok (.goto 6, 3) := by decide +kernel
theorem d_LW_bound_12 : decode (mC m_LW_bound) 12 = .ok (.astore_n 3, 1) := by decide +kernel
theorem d_LW_bound_13 : decode (mC m_LW_bound) 13 = .ok (.iconst 1, 1) := by decide +kernel
theorem d_LW_bound_14 : decode (mC m_LW_bound) 14 = .ok (.ireturn, 1) := by decide +kernel
theorem d_LW_bound_15 : decode (mC m_LW_bound) 15 = .ok (.iconst 0, 1) := by decide +kernel
theorem d_LW_bound_16 : decode (mC m_LW_bound) 16 = .ok (.ireturn, 1) := by decide +kernel
theorem hc_LW_bound_1 : HC m_LW_bound 4 "java/lang/IllegalArgumentException" 12 := ⟨[], (0, 9, 12, 19), [], rfl, (fun z hz => absurd hz List.not_mem_nil), ⟨by decide, by decide⟩, by decide, rfl, "java/lang/IllegalArgumentException", tg_4 42 rfl rfl, tn_4 52 rfl rfl⟩
def m_LW_offset : Mt := (⟨"HonestScalesLaw", "offset", "(LHonestScales;I[J)I"⟩, method_20_code, 4, (Option.some Jvm.ClassFile.FieldType.int), [((0 : Nat), (9 : Nat), (12 : Nat), (34 : Nat))], 33, 1063)
theorem mx_LW_offset : MSX m_LW_offset 3 := ⟨by decide, tg_5 70 rfl rfl, tg_1 0 rfl rfl, tg_5 71 rfl rfl, ⟨by decide, by decide, by decide +kernel⟩⟩
theorem st_LW_offset_73 : ST m_LW_offset 73 m_HS_offset := ⟨tg_5 72 rfl rfl, by decide, by decide⟩
theorem d_LW_offset_0 : decode (mC m_LW_offset) 0 = .ok (.aload_n 2, 1) := by decide +kernel
theorem d_LW_offset_1 : decode (mC m_LW_offset) 1 = .ok (.iconst 0, 1) := by decide +kernel
theorem d_LW_offset_2 : decode (mC m_LW_offset) 2 = .ok (.aload_n 0, 1) := by decide +kernel
theorem d_LW_offset_3 : decode (mC m_LW_offset) 3 = .ok (.iload_n 1, 1) := by decide +kernel
theorem d_LW_offset_4 : decode (mC m_LW_offset) 4 = .ok (.invokevirtual 73, 3) := by decide +kernel
theorem d_LW_offset_7 : decode (mC m_LW_offset) 7 = .ok (.i2l, 1) := by decide +kernel
theorem d_LW_offset_8 : decode (mC m_LW_offset) 8 = .ok (.lastore, 1) := by decide +kernel
theorem d_LW_offset_9 : decode (mC m_LW_offset) 9 = .ok (.goto 6, 3) := by decide +kernel
theorem d_LW_offset_12 : decode (mC m_LW_offset) 12 = .ok (.astore_n 3, 1) := by decide +kernel
theorem d_LW_offset_13 : decode (mC m_LW_offset) 13 = .ok (.iconst 1, 1) := by decide +kernel
theorem d_LW_offset_14 : decode (mC m_LW_offset) 14 = .ok (.ireturn, 1) := by decide +kernel
theorem d_LW_offset_15 : decode (mC m_LW_offset) 15 = .ok (.iconst 0, 1) := by decide +kernel
theorem d_LW_offset_16 : decode (mC m_LW_offset) 16 = .ok (.ireturn, 1) := by decide +kernel
theorem hc_LW_offset_1 : HC m_LW_offset 4 "java/lang/IndexOutOfBoundsException" 12 := ⟨[], (0, 9, 12, 34), [], rfl, (fun z hz => absurd hz List.not_mem_nil), ⟨by decide, by decide⟩, by decide, rfl, "java/lang/IndexOutOfBoundsException", tg_4 171 rfl rfl, tn_4 186 rfl rfl⟩
def m_LW_slope : Mt := (⟨"HonestScalesLaw", "slope", "(LHonestScales;I[J)I"⟩, method_21_code, 4, (Option.some Jvm.ClassFile.FieldType.int), [((0 : Nat), (9 : Nat), (12 : Nat), (34 : Nat))], 33, 1063)
theorem mx_LW_slope : MSX m_LW_slope 3 := ⟨by decide, tg_5 77 rfl rfl, tg_1 0 rfl rfl, tg_5 78 rfl rfl, ⟨by decide, by decide, by decide +kernel⟩⟩
theorem st_LW_slope_76 : ST m_LW_slope 76 m_HS_slope := ⟨tg_5 79 rfl rfl, by decide, by decide⟩
theorem d_LW_slope_0 : decode (mC m_LW_slope) 0 = .ok (.aload_n 2, 1) := by decide +kernel
theorem d_LW_slope_1 : decode (mC m_LW_slope) 1 = .ok (.iconst 0, 1) := by decide +kernel
theorem d_LW_slope_2 : decode (mC m_LW_slope) 2 = .ok (.aload_n 0, 1) := by decide +kernel
theorem d_LW_slope_3 : decode (mC m_LW_slope) 3 = .ok (.iload_n 1, 1) := by decide +kernel
theorem d_LW_slope_4 : decode (mC m_LW_slope) 4 = .ok (.invokevirtual 76, 3) := by decide +kernel
theorem d_LW_slope_7 : decode (mC m_LW_slope) 7 = .ok (.i2l, 1) := by decide +kernel
theorem d_LW_slope_8 : decode (mC m_LW_slope) 8 = .ok (.lastore, 1) := by decide +kernel
theorem d_LW_slope_9 : decode (mC m_LW_slope) 9 = .ok (.goto 6, 3) := by decide +kernel
theorem d_LW_slope_12 : decode (mC m_LW_slope) 12 = .ok (.astore_n 3, 1) := by decide +kernel
theorem d_LW_slope_13 : decode (mC m_LW_slope) 13 = .ok (.iconst 1, 1) := by decide +kernel
theorem d_LW_slope_14 : decode (mC m_LW_slope) 14 = .ok (.ireturn, 1) := by decide +kernel
theorem d_LW_slope_15 : decode (mC m_LW_slope) 15 = .ok (.iconst 0, 1) := by decide +kernel
theorem d_LW_slope_16 : decode (mC m_LW_slope) 16 = .ok (.ireturn, 1) := by decide +kernel
theorem hc_LW_slope_1 : HC m_LW_slope 4 "java/lang/IndexOutOfBoundsException" 12 := ⟨[], (0, 9, 12, 34), [], rfl, (fun z hz => absurd hz List.not_mem_nil), ⟨by decide, by decide⟩, by decide, rfl, "java/lang/IndexOutOfBoundsException", tg_4 171 rfl rfl, tn_4 186 rfl rfl⟩
def m_LW_drift : Mt := (⟨"HonestScalesLaw", "drift", "(LHonestScales;I[J)I"⟩, method_22_code, 4, (Option.some Jvm.ClassFile.FieldType.int), [((0 : Nat), (9 : Nat), (12 : Nat), (34 : Nat))], 33, 1063)
theorem mx_LW_drift : MSX m_LW_drift 3 := ⟨by decide, tg_5 84 rfl rfl, tg_1 0 rfl rfl, tg_5 85 rfl rfl, ⟨by decide, by decide, by decide +kernel⟩⟩
theorem st_LW_drift_79 : ST m_LW_drift 79 m_HS_drift := ⟨tg_5 86 rfl rfl, by decide, by decide⟩
theorem d_LW_drift_0 : decode (mC m_LW_drift) 0 = .ok (.aload_n 2, 1) := by decide +kernel
theorem d_LW_drift_1 : decode (mC m_LW_drift) 1 = .ok (.iconst 0, 1) := by decide +kernel
theorem d_LW_drift_2 : decode (mC m_LW_drift) 2 = .ok (.aload_n 0, 1) := by decide +kernel
theorem d_LW_drift_3 : decode (mC m_LW_drift) 3 = .ok (.iload_n 1, 1) := by decide +kernel
theorem d_LW_drift_4 : decode (mC m_LW_drift) 4 = .ok (.invokevirtual 79, 3) := by decide +kernel
theorem d_LW_drift_7 : decode (mC m_LW_drift) 7 = .ok (.i2l, 1) := by decide +kernel
theorem d_LW_drift_8 : decode (mC m_LW_drift) 8 = .ok (.lastore, 1) := by decide +kernel
theorem d_LW_drift_9 : decode (mC m_LW_drift) 9 = .ok (.goto 6, 3) := by decide +kernel
theorem d_LW_drift_12 : decode (mC m_LW_drift) 12 = .ok (.astore_n 3, 1) := by decide +kernel
theorem d_LW_drift_13 : decode (mC m_LW_drift) 13 = .ok (.iconst 1, 1) := by decide +kernel
theorem d_LW_drift_14 : decode (mC m_LW_drift) 14 = .ok (.ireturn, 1) := by decide +kernel
theorem d_LW_drift_15 : decode (mC m_LW_drift) 15 = .ok (.iconst 0, 1) := by decide +kernel
theorem d_LW_drift_16 : decode (mC m_LW_drift) 16 = .ok (.ireturn, 1) := by decide +kernel
theorem hc_LW_drift_1 : HC m_LW_drift 4 "java/lang/IndexOutOfBoundsException" 12 := ⟨[], (0, 9, 12, 34), [], rfl, (fun z hz => absurd hz List.not_mem_nil), ⟨by decide, by decide⟩, by decide, rfl, "java/lang/IndexOutOfBoundsException", tg_4 171 rfl rfl, tn_4 186 rfl rfl⟩
def m_LW_reading : Mt := (⟨"HonestScalesLaw", "reading", "(LHonestScales;II[J)I"⟩, method_23_code, 5, (Option.some Jvm.ClassFile.FieldType.int), [((0 : Nat), (10 : Nat), (13 : Nat), (34 : Nat)), ((0 : Nat), (10 : Nat), (17 : Nat), (19 : Nat))], 33, 1065)
theorem mx_LW_reading : MSX m_LW_reading 4 := ⟨by decide, tg_5 91 rfl rfl, tg_1 0 rfl rfl, tg_5 92 rfl rfl, ⟨by decide, by decide, by decide +kernel⟩⟩
theorem st_LW_reading_82 : ST m_LW_reading 82 m_HS_reading := ⟨tg_5 93 rfl rfl, by decide, by decide⟩
theorem d_LW_reading_0 : decode (mC m_LW_reading) 0 = .ok (.aload_n 3, 1) := by decide +kernel
theorem d_LW_reading_1 : decode (mC m_LW_reading) 1 = .ok (.iconst 0, 1) := by decide +kernel
theorem d_LW_reading_2 : decode (mC m_LW_reading) 2 = .ok (.aload_n 0, 1) := by decide +kernel
theorem d_LW_reading_3 : decode (mC m_LW_reading) 3 = .ok (.iload_n 1, 1) := by decide +kernel
theorem d_LW_reading_4 : decode (mC m_LW_reading) 4 = .ok (.iload_n 2, 1) := by decide +kernel
theorem d_LW_reading_5 : decode (mC m_LW_reading) 5 = .ok (.invokevirtual 82, 3) := by decide +kernel
theorem d_LW_reading_8 : decode (mC m_LW_reading) 8 = .ok (.i2l, 1) := by decide +kernel
theorem d_LW_reading_9 : decode (mC m_LW_reading) 9 = .ok (.lastore, 1) := by decide +kernel
theorem d_LW_reading_10 : decode (mC m_LW_reading) 10 = .ok (.goto 11, 3) := by decide +kernel
theorem d_LW_reading_13 : decode (mC m_LW_reading) 13 = .ok (.astore 4, 2) := by decide +kernel
theorem d_LW_reading_15 : decode (mC m_LW_reading) 15 = .ok (.iconst 1, 1) := by decide +kernel
theorem d_LW_reading_16 : decode (mC m_LW_reading) 16 = .ok (.ireturn, 1) := by decide +kernel
theorem d_LW_reading_17 : decode (mC m_LW_reading) 17 = .ok (.astore 4, 2) := by decide +kernel
theorem d_LW_reading_19 : decode (mC m_LW_reading) 19 = .ok (.iconst 2, 1) := by decide +kernel
theorem d_LW_reading_20 : decode (mC m_LW_reading) 20 = .ok (.ireturn, 1) := by decide +kernel
theorem d_LW_reading_21 : decode (mC m_LW_reading) 21 = .ok (.iconst 0, 1) := by decide +kernel
theorem d_LW_reading_22 : decode (mC m_LW_reading) 22 = .ok (.ireturn, 1) := by decide +kernel
theorem hc_LW_reading_1 : HC m_LW_reading 5 "java/lang/IndexOutOfBoundsException" 13 := ⟨[], (0, 10, 13, 34), [(0, 10, 17, 19)], rfl, (fun z hz => absurd hz List.not_mem_nil), ⟨by decide, by decide⟩, by decide, rfl, "java/lang/IndexOutOfBoundsException", tg_4 171 rfl rfl, tn_4 186 rfl rfl⟩
theorem hc_LW_reading_2 : HC m_LW_reading 5 "java/lang/IllegalArgumentException" 17 := ⟨[(0, 10, 13, 34)], (0, 10, 17, 19), [], rfl, (fun z hz => by
    simp only [List.mem_cons, List.not_mem_nil, or_false] at hz
    subst hz
    exact ⟨by decide, "java/lang/IndexOutOfBoundsException", tg_4 171 rfl rfl, by decide⟩), ⟨by decide, by decide⟩, by decide, rfl, "java/lang/IllegalArgumentException", tg_4 42 rfl rfl, tn_4 52 rfl rfl⟩
def m_LW_excess : Mt := (⟨"HonestScalesLaw", "excess", "(LHonestScales;II[J)I"⟩, method_24_code, 5, (Option.some Jvm.ClassFile.FieldType.int), [((0 : Nat), (10 : Nat), (13 : Nat), (34 : Nat)), ((0 : Nat), (10 : Nat), (17 : Nat), (19 : Nat))], 33, 1066)
theorem mx_LW_excess : MSX m_LW_excess 4 := ⟨by decide, tg_5 99 rfl rfl, tg_1 0 rfl rfl, tg_5 100 rfl rfl, ⟨by decide, by decide, by decide +kernel⟩⟩
theorem st_LW_excess_85 : ST m_LW_excess 85 m_HS_excess := ⟨tg_5 101 rfl rfl, by decide, by decide⟩
theorem d_LW_excess_0 : decode (mC m_LW_excess) 0 = .ok (.aload_n 3, 1) := by decide +kernel
theorem d_LW_excess_1 : decode (mC m_LW_excess) 1 = .ok (.iconst 0, 1) := by decide +kernel
theorem d_LW_excess_2 : decode (mC m_LW_excess) 2 = .ok (.aload_n 0, 1) := by decide +kernel
theorem d_LW_excess_3 : decode (mC m_LW_excess) 3 = .ok (.iload_n 1, 1) := by decide +kernel
theorem d_LW_excess_4 : decode (mC m_LW_excess) 4 = .ok (.iload_n 2, 1) := by decide +kernel
theorem d_LW_excess_5 : decode (mC m_LW_excess) 5 = .ok (.invokevirtual 85, 3) := by decide +kernel
theorem d_LW_excess_8 : decode (mC m_LW_excess) 8 = .ok (.i2l, 1) := by decide +kernel
theorem d_LW_excess_9 : decode (mC m_LW_excess) 9 = .ok (.lastore, 1) := by decide +kernel
theorem d_LW_excess_10 : decode (mC m_LW_excess) 10 = .ok (.goto 11, 3) := by decide +kernel
theorem d_LW_excess_13 : decode (mC m_LW_excess) 13 = .ok (.astore 4, 2) := by decide +kernel
theorem d_LW_excess_15 : decode (mC m_LW_excess) 15 = .ok (.iconst 1, 1) := by decide +kernel
theorem d_LW_excess_16 : decode (mC m_LW_excess) 16 = .ok (.ireturn, 1) := by decide +kernel
theorem d_LW_excess_17 : decode (mC m_LW_excess) 17 = .ok (.astore 4, 2) := by decide +kernel
theorem d_LW_excess_19 : decode (mC m_LW_excess) 19 = .ok (.iconst 2, 1) := by decide +kernel
theorem d_LW_excess_20 : decode (mC m_LW_excess) 20 = .ok (.ireturn, 1) := by decide +kernel
theorem d_LW_excess_21 : decode (mC m_LW_excess) 21 = .ok (.iconst 0, 1) := by decide +kernel
theorem d_LW_excess_22 : decode (mC m_LW_excess) 22 = .ok (.ireturn, 1) := by decide +kernel
theorem hc_LW_excess_1 : HC m_LW_excess 5 "java/lang/IndexOutOfBoundsException" 13 := ⟨[], (0, 10, 13, 34), [(0, 10, 17, 19)], rfl, (fun z hz => absurd hz List.not_mem_nil), ⟨by decide, by decide⟩, by decide, rfl, "java/lang/IndexOutOfBoundsException", tg_4 171 rfl rfl, tn_4 186 rfl rfl⟩
theorem hc_LW_excess_2 : HC m_LW_excess 5 "java/lang/IllegalArgumentException" 17 := ⟨[(0, 10, 13, 34)], (0, 10, 17, 19), [], rfl, (fun z hz => by
    simp only [List.mem_cons, List.not_mem_nil, or_false] at hz
    subst hz
    exact ⟨by decide, "java/lang/IndexOutOfBoundsException", tg_4 171 rfl rfl, by decide⟩), ⟨by decide, by decide⟩, by decide, rfl, "java/lang/IllegalArgumentException", tg_4 42 rfl rfl, tn_4 52 rfl rfl⟩
def m_LW_totalExcess : Mt := (⟨"HonestScalesLaw", "totalExcess", "(LHonestScales;I[J)I"⟩, method_25_code, 4, (Option.some Jvm.ClassFile.FieldType.int), [((0 : Nat), (9 : Nat), (12 : Nat), (34 : Nat))], 34, 1087)
theorem mx_LW_totalExcess : MSX m_LW_totalExcess 3 := ⟨by decide, tg_5 107 rfl rfl, tg_1 0 rfl rfl, tg_5 108 rfl rfl, ⟨by decide, by decide, by decide +kernel⟩⟩
theorem st_LW_totalExcess_88 : ST m_LW_totalExcess 88 m_HS_totalExcess := ⟨tg_5 109 rfl rfl, by decide, by decide⟩
theorem d_LW_totalExcess_0 : decode (mC m_LW_totalExcess) 0 = .ok (.aload_n 2, 1) := by decide +kernel
theorem d_LW_totalExcess_1 : decode (mC m_LW_totalExcess) 1 = .ok (.iconst 0, 1) := by decide +kernel
theorem d_LW_totalExcess_2 : decode (mC m_LW_totalExcess) 2 = .ok (.aload_n 0, 1) := by decide +kernel
theorem d_LW_totalExcess_3 : decode (mC m_LW_totalExcess) 3 = .ok (.iload_n 1, 1) := by decide +kernel
theorem d_LW_totalExcess_4 : decode (mC m_LW_totalExcess) 4 = .ok (.invokevirtual 88, 3) := by decide +kernel
theorem d_LW_totalExcess_7 : decode (mC m_LW_totalExcess) 7 = .ok (.i2l, 1) := by decide +kernel
theorem d_LW_totalExcess_8 : decode (mC m_LW_totalExcess) 8 = .ok (.lastore, 1) := by decide +kernel
theorem d_LW_totalExcess_9 : decode (mC m_LW_totalExcess) 9 = .ok (.goto 6, 3) := by decide +kernel
theorem d_LW_totalExcess_12 : decode (mC m_LW_totalExcess) 12 = .ok (.astore_n 3, 1) := by decide +kernel
theorem d_LW_totalExcess_13 : decode (mC m_LW_totalExcess) 13 = .ok (.iconst 1, 1) := by decide +kernel
theorem d_LW_totalExcess_14 : decode (mC m_LW_totalExcess) 14 = .ok (.ireturn, 1) := by decide +kernel
theorem d_LW_totalExcess_15 : decode (mC m_LW_totalExcess) 15 = .ok (.iconst 0, 1) := by decide +kernel
theorem d_LW_totalExcess_16 : decode (mC m_LW_totalExcess) 16 = .ok (.ireturn, 1) := by decide +kernel
theorem hc_LW_totalExcess_1 : HC m_LW_totalExcess 4 "java/lang/IndexOutOfBoundsException" 12 := ⟨[], (0, 9, 12, 34), [], rfl, (fun z hz => absurd hz List.not_mem_nil), ⟨by decide, by decide⟩, by decide, rfl, "java/lang/IndexOutOfBoundsException", tg_4 171 rfl rfl, tn_4 186 rfl rfl⟩
def m_LW_isTrue : Mt := (⟨"HonestScalesLaw", "isTrue", "(LHonestScales;I[J)I"⟩, method_26_code, 4, (Option.some Jvm.ClassFile.FieldType.int), [((0 : Nat), (16 : Nat), (19 : Nat), (34 : Nat))], 35, 1108)
theorem mx_LW_isTrue : MSX m_LW_isTrue 3 := ⟨by decide, tg_5 114 rfl rfl, tg_1 0 rfl rfl, tg_5 115 rfl rfl, ⟨by decide, by decide, by decide +kernel⟩⟩
theorem st_LW_isTrue_91 : ST m_LW_isTrue 91 m_HS_isTrue := ⟨tg_5 116 rfl rfl, by decide, by decide⟩
theorem d_LW_isTrue_0 : decode (mC m_LW_isTrue) 0 = .ok (.aload_n 2, 1) := by decide +kernel
theorem d_LW_isTrue_1 : decode (mC m_LW_isTrue) 1 = .ok (.iconst 0, 1) := by decide +kernel
theorem d_LW_isTrue_2 : decode (mC m_LW_isTrue) 2 = .ok (.aload_n 0, 1) := by decide +kernel
theorem d_LW_isTrue_3 : decode (mC m_LW_isTrue) 3 = .ok (.iload_n 1, 1) := by decide +kernel
theorem d_LW_isTrue_4 : decode (mC m_LW_isTrue) 4 = .ok (.invokevirtual 91, 3) := by decide +kernel
theorem d_LW_isTrue_7 : decode (mC m_LW_isTrue) 7 = .ok (.ifCond .eq 7, 3) := by decide +kernel
theorem d_LW_isTrue_10 : decode (mC m_LW_isTrue) 10 = .ok (.lconst 1, 1) := by decide +kernel
theorem d_LW_isTrue_11 : decode (mC m_LW_isTrue) 11 = .ok (.goto 4, 3) := by decide +kernel
theorem d_LW_isTrue_14 : decode (mC m_LW_isTrue) 14 = .ok (.lconst 0, 1) := by decide +kernel
theorem d_LW_isTrue_15 : decode (mC m_LW_isTrue) 15 = .ok (.lastore, 1) := by decide +kernel
theorem d_LW_isTrue_16 : decode (mC m_LW_isTrue) 16 = .ok (.goto 6, 3) := by decide +kernel
theorem d_LW_isTrue_19 : decode (mC m_LW_isTrue) 19 = .ok (.astore_n 3, 1) := by decide +kernel
theorem d_LW_isTrue_20 : decode (mC m_LW_isTrue) 20 = .ok (.iconst 1, 1) := by decide +kernel
theorem d_LW_isTrue_21 : decode (mC m_LW_isTrue) 21 = .ok (.ireturn, 1) := by decide +kernel
theorem d_LW_isTrue_22 : decode (mC m_LW_isTrue) 22 = .ok (.iconst 0, 1) := by decide +kernel
theorem d_LW_isTrue_23 : decode (mC m_LW_isTrue) 23 = .ok (.ireturn, 1) := by decide +kernel
theorem hc_LW_isTrue_1 : HC m_LW_isTrue 4 "java/lang/IndexOutOfBoundsException" 19 := ⟨[], (0, 16, 19, 34), [], rfl, (fun z hz => absurd hz List.not_mem_nil), ⟨by decide, by decide⟩, by decide, rfl, "java/lang/IndexOutOfBoundsException", tg_4 171 rfl rfl, tn_4 186 rfl rfl⟩
def m_LW_worstWeight : Mt := (⟨"HonestScalesLaw", "worstWeight", "(LHonestScales;I[J)I"⟩, method_27_code, 4, (Option.some Jvm.ClassFile.FieldType.int), [((0 : Nat), (9 : Nat), (12 : Nat), (34 : Nat))], 34, 1087)
theorem mx_LW_worstWeight : MSX m_LW_worstWeight 3 := ⟨by decide, tg_5 121 rfl rfl, tg_1 0 rfl rfl, tg_5 122 rfl rfl, ⟨by decide, by decide, by decide +kernel⟩⟩
theorem st_LW_worstWeight_95 : ST m_LW_worstWeight 95 m_HS_worstWeight := ⟨tg_5 123 rfl rfl, by decide, by decide⟩
theorem d_LW_worstWeight_0 : decode (mC m_LW_worstWeight) 0 = .ok (.aload_n 2, 1) := by decide +kernel
theorem d_LW_worstWeight_1 : decode (mC m_LW_worstWeight) 1 = .ok (.iconst 0, 1) := by decide +kernel
theorem d_LW_worstWeight_2 : decode (mC m_LW_worstWeight) 2 = .ok (.aload_n 0, 1) := by decide +kernel
theorem d_LW_worstWeight_3 : decode (mC m_LW_worstWeight) 3 = .ok (.iload_n 1, 1) := by decide +kernel
theorem d_LW_worstWeight_4 : decode (mC m_LW_worstWeight) 4 = .ok (.invokevirtual 95, 3) := by decide +kernel
theorem d_LW_worstWeight_7 : decode (mC m_LW_worstWeight) 7 = .ok (.i2l, 1) := by decide +kernel
theorem d_LW_worstWeight_8 : decode (mC m_LW_worstWeight) 8 = .ok (.lastore, 1) := by decide +kernel
theorem d_LW_worstWeight_9 : decode (mC m_LW_worstWeight) 9 = .ok (.goto 6, 3) := by decide +kernel
theorem d_LW_worstWeight_12 : decode (mC m_LW_worstWeight) 12 = .ok (.astore_n 3, 1) := by decide +kernel
theorem d_LW_worstWeight_13 : decode (mC m_LW_worstWeight) 13 = .ok (.iconst 1, 1) := by decide +kernel
theorem d_LW_worstWeight_14 : decode (mC m_LW_worstWeight) 14 = .ok (.ireturn, 1) := by decide +kernel
theorem d_LW_worstWeight_15 : decode (mC m_LW_worstWeight) 15 = .ok (.iconst 0, 1) := by decide +kernel
theorem d_LW_worstWeight_16 : decode (mC m_LW_worstWeight) 16 = .ok (.ireturn, 1) := by decide +kernel
theorem hc_LW_worstWeight_1 : HC m_LW_worstWeight 4 "java/lang/IndexOutOfBoundsException" 12 := ⟨[], (0, 9, 12, 34), [], rfl, (fun z hz => absurd hz List.not_mem_nil), ⟨by decide, by decide⟩, by decide, rfl, "java/lang/IndexOutOfBoundsException", tg_4 171 rfl rfl, tn_4 186 rfl rfl⟩
def m_LW_stampedUntil : Mt := (⟨"HonestScalesLaw", "stampedUntil", "(LHonestScales;I[J)I"⟩, method_28_code, 4, (Option.some Jvm.ClassFile.FieldType.int), [((0 : Nat), (9 : Nat), (12 : Nat), (34 : Nat))], 33, 1063)
theorem mx_LW_stampedUntil : MSX m_LW_stampedUntil 3 := ⟨by decide, tg_5 132 rfl rfl, tg_1 0 rfl rfl, tg_5 133 rfl rfl, ⟨by decide, by decide, by decide +kernel⟩⟩
theorem st_LW_stampedUntil_98 : ST m_LW_stampedUntil 98 m_HS_stampedUntil := ⟨tg_5 134 rfl rfl, by decide, by decide⟩
theorem d_LW_stampedUntil_0 : decode (mC m_LW_stampedUntil) 0 = .ok (.aload_n 2, 1) := by decide +kernel
theorem d_LW_stampedUntil_1 : decode (mC m_LW_stampedUntil) 1 = .ok (.iconst 0, 1) := by decide +kernel
theorem d_LW_stampedUntil_2 : decode (mC m_LW_stampedUntil) 2 = .ok (.aload_n 0, 1) := by decide +kernel
theorem d_LW_stampedUntil_3 : decode (mC m_LW_stampedUntil) 3 = .ok (.iload_n 1, 1) := by decide +kernel
theorem d_LW_stampedUntil_4 : decode (mC m_LW_stampedUntil) 4 = .ok (.invokevirtual 98, 3) := by decide +kernel
theorem d_LW_stampedUntil_7 : decode (mC m_LW_stampedUntil) 7 = .ok (.i2l, 1) := by decide +kernel
theorem d_LW_stampedUntil_8 : decode (mC m_LW_stampedUntil) 8 = .ok (.lastore, 1) := by decide +kernel
theorem d_LW_stampedUntil_9 : decode (mC m_LW_stampedUntil) 9 = .ok (.goto 6, 3) := by decide +kernel
theorem d_LW_stampedUntil_12 : decode (mC m_LW_stampedUntil) 12 = .ok (.astore_n 3, 1) := by decide +kernel
theorem d_LW_stampedUntil_13 : decode (mC m_LW_stampedUntil) 13 = .ok (.iconst 1, 1) := by decide +kernel
theorem d_LW_stampedUntil_14 : decode (mC m_LW_stampedUntil) 14 = .ok (.ireturn, 1) := by decide +kernel
theorem d_LW_stampedUntil_15 : decode (mC m_LW_stampedUntil) 15 = .ok (.iconst 0, 1) := by decide +kernel
theorem d_LW_stampedUntil_16 : decode (mC m_LW_stampedUntil) 16 = .ok (.ireturn, 1) := by decide +kernel
theorem hc_LW_stampedUntil_1 : HC m_LW_stampedUntil 4 "java/lang/IndexOutOfBoundsException" 12 := ⟨[], (0, 9, 12, 34), [], rfl, (fun z hz => absurd hz List.not_mem_nil), ⟨by decide, by decide⟩, by decide, rfl, "java/lang/IndexOutOfBoundsException", tg_4 171 rfl rfl, tn_4 186 rfl rfl⟩
def m_LW_isStamped : Mt := (⟨"HonestScalesLaw", "isStamped", "(LHonestScales;I[J)I"⟩, method_29_code, 4, (Option.some Jvm.ClassFile.FieldType.int), [((0 : Nat), (16 : Nat), (19 : Nat), (34 : Nat))], 33, 1063)
theorem mx_LW_isStamped : MSX m_LW_isStamped 3 := ⟨by decide, tg_5 139 rfl rfl, tg_1 0 rfl rfl, tg_5 140 rfl rfl, ⟨by decide, by decide, by decide +kernel⟩⟩
theorem st_LW_isStamped_101 : ST m_LW_isStamped 101 m_HS_isStamped := ⟨tg_5 141 rfl rfl, by decide, by decide⟩
theorem d_LW_isStamped_0 : decode (mC m_LW_isStamped) 0 = .ok (.aload_n 2, 1) := by decide +kernel
theorem d_LW_isStamped_1 : decode (mC m_LW_isStamped) 1 = .ok (.iconst 0, 1) := by decide +kernel
theorem d_LW_isStamped_2 : decode (mC m_LW_isStamped) 2 = .ok (.aload_n 0, 1) := by decide +kernel
theorem d_LW_isStamped_3 : decode (mC m_LW_isStamped) 3 = .ok (.iload_n 1, 1) := by decide +kernel
theorem d_LW_isStamped_4 : decode (mC m_LW_isStamped) 4 = .ok (.invokevirtual 101, 3) := by decide +kernel
theorem d_LW_isStamped_7 : decode (mC m_LW_isStamped) 7 = .ok (.ifCond .eq 7, 3) := by decide +kernel
theorem d_LW_isStamped_10 : decode (mC m_LW_isStamped) 10 = .ok (.lconst 1, 1) := by decide +kernel
theorem d_LW_isStamped_11 : decode (mC m_LW_isStamped) 11 = .ok (.goto 4, 3) := by decide +kernel
theorem d_LW_isStamped_14 : decode (mC m_LW_isStamped) 14 = .ok (.lconst 0, 1) := by decide +kernel
theorem d_LW_isStamped_15 : decode (mC m_LW_isStamped) 15 = .ok (.lastore, 1) := by decide +kernel
theorem d_LW_isStamped_16 : decode (mC m_LW_isStamped) 16 = .ok (.goto 6, 3) := by decide +kernel
theorem d_LW_isStamped_19 : decode (mC m_LW_isStamped) 19 = .ok (.astore_n 3, 1) := by decide +kernel
theorem d_LW_isStamped_20 : decode (mC m_LW_isStamped) 20 = .ok (.iconst 1, 1) := by decide +kernel
theorem d_LW_isStamped_21 : decode (mC m_LW_isStamped) 21 = .ok (.ireturn, 1) := by decide +kernel
theorem d_LW_isStamped_22 : decode (mC m_LW_isStamped) 22 = .ok (.iconst 0, 1) := by decide +kernel
theorem d_LW_isStamped_23 : decode (mC m_LW_isStamped) 23 = .ok (.ireturn, 1) := by decide +kernel
theorem hc_LW_isStamped_1 : HC m_LW_isStamped 4 "java/lang/IndexOutOfBoundsException" 19 := ⟨[], (0, 16, 19, 34), [], rfl, (fun z hz => absurd hz List.not_mem_nil), ⟨by decide, by decide⟩, by decide, rfl, "java/lang/IndexOutOfBoundsException", tg_4 171 rfl rfl, tn_4 186 rfl rfl⟩
def m_LW_isOpen : Mt := (⟨"HonestScalesLaw", "isOpen", "(LHonestScales;I[J)I"⟩, method_30_code, 4, (Option.some Jvm.ClassFile.FieldType.int), [((0 : Nat), (16 : Nat), (19 : Nat), (34 : Nat))], 33, 1063)
theorem mx_LW_isOpen : MSX m_LW_isOpen 3 := ⟨by decide, tg_5 147 rfl rfl, tg_1 0 rfl rfl, tg_5 148 rfl rfl, ⟨by decide, by decide, by decide +kernel⟩⟩
theorem st_LW_isOpen_104 : ST m_LW_isOpen 104 m_HS_isOpen := ⟨tg_5 149 rfl rfl, by decide, by decide⟩
theorem d_LW_isOpen_0 : decode (mC m_LW_isOpen) 0 = .ok (.aload_n 2, 1) := by decide +kernel
theorem d_LW_isOpen_1 : decode (mC m_LW_isOpen) 1 = .ok (.iconst 0, 1) := by decide +kernel
theorem d_LW_isOpen_2 : decode (mC m_LW_isOpen) 2 = .ok (.aload_n 0, 1) := by decide +kernel
theorem d_LW_isOpen_3 : decode (mC m_LW_isOpen) 3 = .ok (.iload_n 1, 1) := by decide +kernel
theorem d_LW_isOpen_4 : decode (mC m_LW_isOpen) 4 = .ok (.invokevirtual 104, 3) := by decide +kernel
theorem d_LW_isOpen_7 : decode (mC m_LW_isOpen) 7 = .ok (.ifCond .eq 7, 3) := by decide +kernel
theorem d_LW_isOpen_10 : decode (mC m_LW_isOpen) 10 = .ok (.lconst 1, 1) := by decide +kernel
theorem d_LW_isOpen_11 : decode (mC m_LW_isOpen) 11 = .ok (.goto 4, 3) := by decide +kernel
theorem d_LW_isOpen_14 : decode (mC m_LW_isOpen) 14 = .ok (.lconst 0, 1) := by decide +kernel
theorem d_LW_isOpen_15 : decode (mC m_LW_isOpen) 15 = .ok (.lastore, 1) := by decide +kernel
theorem d_LW_isOpen_16 : decode (mC m_LW_isOpen) 16 = .ok (.goto 6, 3) := by decide +kernel
theorem d_LW_isOpen_19 : decode (mC m_LW_isOpen) 19 = .ok (.astore_n 3, 1) := by decide +kernel
theorem d_LW_isOpen_20 : decode (mC m_LW_isOpen) 20 = .ok (.iconst 1, 1) := by decide +kernel
theorem d_LW_isOpen_21 : decode (mC m_LW_isOpen) 21 = .ok (.ireturn, 1) := by decide +kernel
theorem d_LW_isOpen_22 : decode (mC m_LW_isOpen) 22 = .ok (.iconst 0, 1) := by decide +kernel
theorem d_LW_isOpen_23 : decode (mC m_LW_isOpen) 23 = .ok (.ireturn, 1) := by decide +kernel
theorem hc_LW_isOpen_1 : HC m_LW_isOpen 4 "java/lang/IndexOutOfBoundsException" 19 := ⟨[], (0, 16, 19, 34), [], rfl, (fun z hz => absurd hz List.not_mem_nil), ⟨by decide, by decide⟩, by decide, rfl, "java/lang/IndexOutOfBoundsException", tg_4 171 rfl rfl, tn_4 186 rfl rfl⟩
def m_LW_purse : Mt := (⟨"HonestScalesLaw", "purse", "(LHonestScales;I[J)I"⟩, method_31_code, 4, (Option.some Jvm.ClassFile.FieldType.int), [((0 : Nat), (9 : Nat), (12 : Nat), (34 : Nat))], 33, 1063)
theorem mx_LW_purse : MSX m_LW_purse 3 := ⟨by decide, tg_5 154 rfl rfl, tg_1 0 rfl rfl, tg_5 155 rfl rfl, ⟨by decide, by decide, by decide +kernel⟩⟩
theorem st_LW_purse_107 : ST m_LW_purse 107 m_HS_purse := ⟨tg_5 156 rfl rfl, by decide, by decide⟩
theorem d_LW_purse_0 : decode (mC m_LW_purse) 0 = .ok (.aload_n 2, 1) := by decide +kernel
theorem d_LW_purse_1 : decode (mC m_LW_purse) 1 = .ok (.iconst 0, 1) := by decide +kernel
theorem d_LW_purse_2 : decode (mC m_LW_purse) 2 = .ok (.aload_n 0, 1) := by decide +kernel
theorem d_LW_purse_3 : decode (mC m_LW_purse) 3 = .ok (.iload_n 1, 1) := by decide +kernel
theorem d_LW_purse_4 : decode (mC m_LW_purse) 4 = .ok (.invokevirtual 107, 3) := by decide +kernel
theorem d_LW_purse_7 : decode (mC m_LW_purse) 7 = .ok (.i2l, 1) := by decide +kernel
theorem d_LW_purse_8 : decode (mC m_LW_purse) 8 = .ok (.lastore, 1) := by decide +kernel
theorem d_LW_purse_9 : decode (mC m_LW_purse) 9 = .ok (.goto 6, 3) := by decide +kernel
theorem d_LW_purse_12 : decode (mC m_LW_purse) 12 = .ok (.astore_n 3, 1) := by decide +kernel
theorem d_LW_purse_13 : decode (mC m_LW_purse) 13 = .ok (.iconst 1, 1) := by decide +kernel
theorem d_LW_purse_14 : decode (mC m_LW_purse) 14 = .ok (.ireturn, 1) := by decide +kernel
theorem d_LW_purse_15 : decode (mC m_LW_purse) 15 = .ok (.iconst 0, 1) := by decide +kernel
theorem d_LW_purse_16 : decode (mC m_LW_purse) 16 = .ok (.ireturn, 1) := by decide +kernel
theorem hc_LW_purse_1 : HC m_LW_purse 4 "java/lang/IndexOutOfBoundsException" 12 := ⟨[], (0, 9, 12, 34), [], rfl, (fun z hz => absurd hz List.not_mem_nil), ⟨by decide, by decide⟩, by decide, rfl, "java/lang/IndexOutOfBoundsException", tg_4 171 rfl rfl, tn_4 186 rfl rfl⟩
def m_LW_thumb : Mt := (⟨"HonestScalesLaw", "thumb", "(LHonestScales;I[J)I"⟩, method_32_code, 4, (Option.some Jvm.ClassFile.FieldType.int), [((0 : Nat), (9 : Nat), (12 : Nat), (34 : Nat))], 33, 1063)
theorem mx_LW_thumb : MSX m_LW_thumb 3 := ⟨by decide, tg_5 161 rfl rfl, tg_1 0 rfl rfl, tg_5 162 rfl rfl, ⟨by decide, by decide, by decide +kernel⟩⟩
theorem st_LW_thumb_110 : ST m_LW_thumb 110 m_HS_thumb := ⟨tg_5 163 rfl rfl, by decide, by decide⟩
theorem d_LW_thumb_0 : decode (mC m_LW_thumb) 0 = .ok (.aload_n 2, 1) := by decide +kernel
theorem d_LW_thumb_1 : decode (mC m_LW_thumb) 1 = .ok (.iconst 0, 1) := by decide +kernel
theorem d_LW_thumb_2 : decode (mC m_LW_thumb) 2 = .ok (.aload_n 0, 1) := by decide +kernel
theorem d_LW_thumb_3 : decode (mC m_LW_thumb) 3 = .ok (.iload_n 1, 1) := by decide +kernel
theorem d_LW_thumb_4 : decode (mC m_LW_thumb) 4 = .ok (.invokevirtual 110, 3) := by decide +kernel
theorem d_LW_thumb_7 : decode (mC m_LW_thumb) 7 = .ok (.i2l, 1) := by decide +kernel
theorem d_LW_thumb_8 : decode (mC m_LW_thumb) 8 = .ok (.lastore, 1) := by decide +kernel
theorem d_LW_thumb_9 : decode (mC m_LW_thumb) 9 = .ok (.goto 6, 3) := by decide +kernel
theorem d_LW_thumb_12 : decode (mC m_LW_thumb) 12 = .ok (.astore_n 3, 1) := by decide +kernel
theorem d_LW_thumb_13 : decode (mC m_LW_thumb) 13 = .ok (.iconst 1, 1) := by decide +kernel
theorem d_LW_thumb_14 : decode (mC m_LW_thumb) 14 = .ok (.ireturn, 1) := by decide +kernel
theorem d_LW_thumb_15 : decode (mC m_LW_thumb) 15 = .ok (.iconst 0, 1) := by decide +kernel
theorem d_LW_thumb_16 : decode (mC m_LW_thumb) 16 = .ok (.ireturn, 1) := by decide +kernel
theorem hc_LW_thumb_1 : HC m_LW_thumb 4 "java/lang/IndexOutOfBoundsException" 12 := ⟨[], (0, 9, 12, 34), [], rfl, (fun z hz => absurd hz List.not_mem_nil), ⟨by decide, by decide⟩, by decide, rfl, "java/lang/IndexOutOfBoundsException", tg_4 171 rfl rfl, tn_4 186 rfl rfl⟩
def m_LW_complaints : Mt := (⟨"HonestScalesLaw", "complaints", "(LHonestScales;I[J)I"⟩, method_33_code, 4, (Option.some Jvm.ClassFile.FieldType.int), [((0 : Nat), (9 : Nat), (12 : Nat), (34 : Nat))], 33, 1063)
theorem mx_LW_complaints : MSX m_LW_complaints 3 := ⟨by decide, tg_5 168 rfl rfl, tg_1 0 rfl rfl, tg_5 169 rfl rfl, ⟨by decide, by decide, by decide +kernel⟩⟩
theorem st_LW_complaints_113 : ST m_LW_complaints 113 m_HS_complaints := ⟨tg_5 170 rfl rfl, by decide, by decide⟩
theorem d_LW_complaints_0 : decode (mC m_LW_complaints) 0 = .ok (.aload_n 2, 1) := by decide +kernel
theorem d_LW_complaints_1 : decode (mC m_LW_complaints) 1 = .ok (.iconst 0, 1) := by decide +kernel
theorem d_LW_complaints_2 : decode (mC m_LW_complaints) 2 = .ok (.aload_n 0, 1) := by decide +kernel
theorem d_LW_complaints_3 : decode (mC m_LW_complaints) 3 = .ok (.iload_n 1, 1) := by decide +kernel
theorem d_LW_complaints_4 : decode (mC m_LW_complaints) 4 = .ok (.invokevirtual 113, 3) := by decide +kernel
theorem d_LW_complaints_7 : decode (mC m_LW_complaints) 7 = .ok (.i2l, 1) := by decide +kernel
theorem d_LW_complaints_8 : decode (mC m_LW_complaints) 8 = .ok (.lastore, 1) := by decide +kernel
theorem d_LW_complaints_9 : decode (mC m_LW_complaints) 9 = .ok (.goto 6, 3) := by decide +kernel
theorem d_LW_complaints_12 : decode (mC m_LW_complaints) 12 = .ok (.astore_n 3, 1) := by decide +kernel
theorem d_LW_complaints_13 : decode (mC m_LW_complaints) 13 = .ok (.iconst 1, 1) := by decide +kernel
theorem d_LW_complaints_14 : decode (mC m_LW_complaints) 14 = .ok (.ireturn, 1) := by decide +kernel
theorem d_LW_complaints_15 : decode (mC m_LW_complaints) 15 = .ok (.iconst 0, 1) := by decide +kernel
theorem d_LW_complaints_16 : decode (mC m_LW_complaints) 16 = .ok (.ireturn, 1) := by decide +kernel
theorem hc_LW_complaints_1 : HC m_LW_complaints 4 "java/lang/IndexOutOfBoundsException" 12 := ⟨[], (0, 9, 12, 34), [], rfl, (fun z hz => absurd hz List.not_mem_nil), ⟨by decide, by decide⟩, by decide, rfl, "java/lang/IndexOutOfBoundsException", tg_4 171 rfl rfl, tn_4 186 rfl rfl⟩
def m_LW_failures : Mt := (⟨"HonestScalesLaw", "failures", "(LHonestScales;I[J)I"⟩, method_34_code, 4, (Option.some Jvm.ClassFile.FieldType.int), [((0 : Nat), (9 : Nat), (12 : Nat), (34 : Nat))], 33, 1063)
theorem mx_LW_failures : MSX m_LW_failures 3 := ⟨by decide, tg_5 175 rfl rfl, tg_1 0 rfl rfl, tg_5 176 rfl rfl, ⟨by decide, by decide, by decide +kernel⟩⟩
theorem st_LW_failures_116 : ST m_LW_failures 116 m_HS_failures := ⟨tg_5 177 rfl rfl, by decide, by decide⟩
theorem d_LW_failures_0 : decode (mC m_LW_failures) 0 = .ok (.aload_n 2, 1) := by decide +kernel
theorem d_LW_failures_1 : decode (mC m_LW_failures) 1 = .ok (.iconst 0, 1) := by decide +kernel
theorem d_LW_failures_2 : decode (mC m_LW_failures) 2 = .ok (.aload_n 0, 1) := by decide +kernel
theorem d_LW_failures_3 : decode (mC m_LW_failures) 3 = .ok (.iload_n 1, 1) := by decide +kernel
theorem d_LW_failures_4 : decode (mC m_LW_failures) 4 = .ok (.invokevirtual 116, 3) := by decide +kernel
theorem d_LW_failures_7 : decode (mC m_LW_failures) 7 = .ok (.i2l, 1) := by decide +kernel
theorem d_LW_failures_8 : decode (mC m_LW_failures) 8 = .ok (.lastore, 1) := by decide +kernel
theorem d_LW_failures_9 : decode (mC m_LW_failures) 9 = .ok (.goto 6, 3) := by decide +kernel
theorem d_LW_failures_12 : decode (mC m_LW_failures) 12 = .ok (.astore_n 3, 1) := by decide +kernel
theorem d_LW_failures_13 : decode (mC m_LW_failures) 13 = .ok (.iconst 1, 1) := by decide +kernel
theorem d_LW_failures_14 : decode (mC m_LW_failures) 14 = .ok (.ireturn, 1) := by decide +kernel
theorem d_LW_failures_15 : decode (mC m_LW_failures) 15 = .ok (.iconst 0, 1) := by decide +kernel
theorem d_LW_failures_16 : decode (mC m_LW_failures) 16 = .ok (.ireturn, 1) := by decide +kernel
theorem hc_LW_failures_1 : HC m_LW_failures 4 "java/lang/IndexOutOfBoundsException" 12 := ⟨[], (0, 9, 12, 34), [], rfl, (fun z hz => absurd hz List.not_mem_nil), ⟨by decide, by decide⟩, by decide, rfl, "java/lang/IndexOutOfBoundsException", tg_4 171 rfl rfl, tn_4 186 rfl rfl⟩
def m_LW_latestVisit : Mt := (⟨"HonestScalesLaw", "latestVisit", "(LHonestScales;I[J)I"⟩, method_35_code, 4, (Option.some Jvm.ClassFile.FieldType.int), [((0 : Nat), (9 : Nat), (12 : Nat), (34 : Nat))], 33, 1063)
theorem mx_LW_latestVisit : MSX m_LW_latestVisit 3 := ⟨by decide, tg_5 182 rfl rfl, tg_1 0 rfl rfl, tg_5 183 rfl rfl, ⟨by decide, by decide, by decide +kernel⟩⟩
theorem st_LW_latestVisit_119 : ST m_LW_latestVisit 119 m_HS_latestVisit := ⟨tg_5 184 rfl rfl, by decide, by decide⟩
theorem d_LW_latestVisit_0 : decode (mC m_LW_latestVisit) 0 = .ok (.aload_n 2, 1) := by decide +kernel
theorem d_LW_latestVisit_1 : decode (mC m_LW_latestVisit) 1 = .ok (.iconst 0, 1) := by decide +kernel
theorem d_LW_latestVisit_2 : decode (mC m_LW_latestVisit) 2 = .ok (.aload_n 0, 1) := by decide +kernel
theorem d_LW_latestVisit_3 : decode (mC m_LW_latestVisit) 3 = .ok (.iload_n 1, 1) := by decide +kernel
theorem d_LW_latestVisit_4 : decode (mC m_LW_latestVisit) 4 = .ok (.invokevirtual 119, 3) := by decide +kernel
theorem d_LW_latestVisit_7 : decode (mC m_LW_latestVisit) 7 = .ok (.i2l, 1) := by decide +kernel
theorem d_LW_latestVisit_8 : decode (mC m_LW_latestVisit) 8 = .ok (.lastore, 1) := by decide +kernel
theorem d_LW_latestVisit_9 : decode (mC m_LW_latestVisit) 9 = .ok (.goto 6, 3) := by decide +kernel
theorem d_LW_latestVisit_12 : decode (mC m_LW_latestVisit) 12 = .ok (.astore_n 3, 1) := by decide +kernel
theorem d_LW_latestVisit_13 : decode (mC m_LW_latestVisit) 13 = .ok (.iconst 1, 1) := by decide +kernel
theorem d_LW_latestVisit_14 : decode (mC m_LW_latestVisit) 14 = .ok (.ireturn, 1) := by decide +kernel
theorem d_LW_latestVisit_15 : decode (mC m_LW_latestVisit) 15 = .ok (.iconst 0, 1) := by decide +kernel
theorem d_LW_latestVisit_16 : decode (mC m_LW_latestVisit) 16 = .ok (.ireturn, 1) := by decide +kernel
theorem hc_LW_latestVisit_1 : HC m_LW_latestVisit 4 "java/lang/IndexOutOfBoundsException" 12 := ⟨[], (0, 9, 12, 34), [], rfl, (fun z hz => absurd hz List.not_mem_nil), ⟨by decide, by decide⟩, by decide, rfl, "java/lang/IndexOutOfBoundsException", tg_4 171 rfl rfl, tn_4 186 rfl rfl⟩
def m_LW_finesOf : Mt := (⟨"HonestScalesLaw", "finesOf", "(LHonestScales;I[J)I"⟩, method_36_code, 4, (Option.some Jvm.ClassFile.FieldType.int), [((0 : Nat), (9 : Nat), (12 : Nat), (34 : Nat))], 33, 1063)
theorem mx_LW_finesOf : MSX m_LW_finesOf 3 := ⟨by decide, tg_5 189 rfl rfl, tg_1 0 rfl rfl, tg_5 190 rfl rfl, ⟨by decide, by decide, by decide +kernel⟩⟩
theorem st_LW_finesOf_122 : ST m_LW_finesOf 122 m_HS_finesOf := ⟨tg_5 191 rfl rfl, by decide, by decide⟩
theorem d_LW_finesOf_0 : decode (mC m_LW_finesOf) 0 = .ok (.aload_n 2, 1) := by decide +kernel
theorem d_LW_finesOf_1 : decode (mC m_LW_finesOf) 1 = .ok (.iconst 0, 1) := by decide +kernel
theorem d_LW_finesOf_2 : decode (mC m_LW_finesOf) 2 = .ok (.aload_n 0, 1) := by decide +kernel
theorem d_LW_finesOf_3 : decode (mC m_LW_finesOf) 3 = .ok (.iload_n 1, 1) := by decide +kernel
theorem d_LW_finesOf_4 : decode (mC m_LW_finesOf) 4 = .ok (.invokevirtual 122, 3) := by decide +kernel
theorem d_LW_finesOf_7 : decode (mC m_LW_finesOf) 7 = .ok (.i2l, 1) := by decide +kernel
theorem d_LW_finesOf_8 : decode (mC m_LW_finesOf) 8 = .ok (.lastore, 1) := by decide +kernel
theorem d_LW_finesOf_9 : decode (mC m_LW_finesOf) 9 = .ok (.goto 6, 3) := by decide +kernel
theorem d_LW_finesOf_12 : decode (mC m_LW_finesOf) 12 = .ok (.astore_n 3, 1) := by decide +kernel
theorem d_LW_finesOf_13 : decode (mC m_LW_finesOf) 13 = .ok (.iconst 1, 1) := by decide +kernel
theorem d_LW_finesOf_14 : decode (mC m_LW_finesOf) 14 = .ok (.ireturn, 1) := by decide +kernel
theorem d_LW_finesOf_15 : decode (mC m_LW_finesOf) 15 = .ok (.iconst 0, 1) := by decide +kernel
theorem d_LW_finesOf_16 : decode (mC m_LW_finesOf) 16 = .ok (.ireturn, 1) := by decide +kernel
theorem hc_LW_finesOf_1 : HC m_LW_finesOf 4 "java/lang/IndexOutOfBoundsException" 12 := ⟨[], (0, 9, 12, 34), [], rfl, (fun z hz => absurd hz List.not_mem_nil), ⟨by decide, by decide⟩, by decide, rfl, "java/lang/IndexOutOfBoundsException", tg_4 171 rfl rfl, tn_4 186 rfl rfl⟩
def m_LW_gainsOf : Mt := (⟨"HonestScalesLaw", "gainsOf", "(LHonestScales;I[J)I"⟩, method_37_code, 4, (Option.some Jvm.ClassFile.FieldType.int), [((0 : Nat), (9 : Nat), (12 : Nat), (34 : Nat))], 33, 1063)
theorem mx_LW_gainsOf : MSX m_LW_gainsOf 3 := ⟨by decide, tg_5 196 rfl rfl, tg_1 0 rfl rfl, tg_5 197 rfl rfl, ⟨by decide, by decide, by decide +kernel⟩⟩
theorem st_LW_gainsOf_125 : ST m_LW_gainsOf 125 m_HS_gainsOf := ⟨tg_5 198 rfl rfl, by decide, by decide⟩
theorem d_LW_gainsOf_0 : decode (mC m_LW_gainsOf) 0 = .ok (.aload_n 2, 1) := by decide +kernel
theorem d_LW_gainsOf_1 : decode (mC m_LW_gainsOf) 1 = .ok (.iconst 0, 1) := by decide +kernel
theorem d_LW_gainsOf_2 : decode (mC m_LW_gainsOf) 2 = .ok (.aload_n 0, 1) := by decide +kernel
theorem d_LW_gainsOf_3 : decode (mC m_LW_gainsOf) 3 = .ok (.iload_n 1, 1) := by decide +kernel
theorem d_LW_gainsOf_4 : decode (mC m_LW_gainsOf) 4 = .ok (.invokevirtual 125, 3) := by decide +kernel
theorem d_LW_gainsOf_7 : decode (mC m_LW_gainsOf) 7 = .ok (.i2l, 1) := by decide +kernel
theorem d_LW_gainsOf_8 : decode (mC m_LW_gainsOf) 8 = .ok (.lastore, 1) := by decide +kernel
theorem d_LW_gainsOf_9 : decode (mC m_LW_gainsOf) 9 = .ok (.goto 6, 3) := by decide +kernel
theorem d_LW_gainsOf_12 : decode (mC m_LW_gainsOf) 12 = .ok (.astore_n 3, 1) := by decide +kernel
theorem d_LW_gainsOf_13 : decode (mC m_LW_gainsOf) 13 = .ok (.iconst 1, 1) := by decide +kernel
theorem d_LW_gainsOf_14 : decode (mC m_LW_gainsOf) 14 = .ok (.ireturn, 1) := by decide +kernel
theorem d_LW_gainsOf_15 : decode (mC m_LW_gainsOf) 15 = .ok (.iconst 0, 1) := by decide +kernel
theorem d_LW_gainsOf_16 : decode (mC m_LW_gainsOf) 16 = .ok (.ireturn, 1) := by decide +kernel
theorem hc_LW_gainsOf_1 : HC m_LW_gainsOf 4 "java/lang/IndexOutOfBoundsException" 12 := ⟨[], (0, 9, 12, 34), [], rfl, (fun z hz => absurd hz List.not_mem_nil), ⟨by decide, by decide⟩, by decide, rfl, "java/lang/IndexOutOfBoundsException", tg_4 171 rfl rfl, tn_4 186 rfl rfl⟩
def m_LW_usesThumb : Mt := (⟨"HonestScalesLaw", "usesThumb", "(LHonestScales;I[J)I"⟩, method_38_code, 4, (Option.some Jvm.ClassFile.FieldType.int), [((0 : Nat), (16 : Nat), (19 : Nat), (34 : Nat))], 33, 1063)
theorem mx_LW_usesThumb : MSX m_LW_usesThumb 3 := ⟨by decide, tg_5 203 rfl rfl, tg_1 0 rfl rfl, tg_5 204 rfl rfl, ⟨by decide, by decide, by decide +kernel⟩⟩
theorem st_LW_usesThumb_128 : ST m_LW_usesThumb 128 m_HS_usesThumb := ⟨tg_5 205 rfl rfl, by decide, by decide⟩
theorem d_LW_usesThumb_0 : decode (mC m_LW_usesThumb) 0 = .ok (.aload_n 2, 1) := by decide +kernel
theorem d_LW_usesThumb_1 : decode (mC m_LW_usesThumb) 1 = .ok (.iconst 0, 1) := by decide +kernel
theorem d_LW_usesThumb_2 : decode (mC m_LW_usesThumb) 2 = .ok (.aload_n 0, 1) := by decide +kernel
theorem d_LW_usesThumb_3 : decode (mC m_LW_usesThumb) 3 = .ok (.iload_n 1, 1) := by decide +kernel
theorem d_LW_usesThumb_4 : decode (mC m_LW_usesThumb) 4 = .ok (.invokevirtual 128, 3) := by decide +kernel
theorem d_LW_usesThumb_7 : decode (mC m_LW_usesThumb) 7 = .ok (.ifCond .eq 7, 3) := by decide +kernel
theorem d_LW_usesThumb_10 : decode (mC m_LW_usesThumb) 10 = .ok (.lconst 1, 1) := by decide +kernel
theorem d_LW_usesThumb_11 : decode (mC m_LW_usesThumb) 11 = .ok (.goto 4, 3) := by decide +kernel
theorem d_LW_usesThumb_14 : decode (mC m_LW_usesThumb) 14 = .ok (.lconst 0, 1) := by decide +kernel
theorem d_LW_usesThumb_15 : decode (mC m_LW_usesThumb) 15 = .ok (.lastore, 1) := by decide +kernel
theorem d_LW_usesThumb_16 : decode (mC m_LW_usesThumb) 16 = .ok (.goto 6, 3) := by decide +kernel
theorem d_LW_usesThumb_19 : decode (mC m_LW_usesThumb) 19 = .ok (.astore_n 3, 1) := by decide +kernel
theorem d_LW_usesThumb_20 : decode (mC m_LW_usesThumb) 20 = .ok (.iconst 1, 1) := by decide +kernel
theorem d_LW_usesThumb_21 : decode (mC m_LW_usesThumb) 21 = .ok (.ireturn, 1) := by decide +kernel
theorem d_LW_usesThumb_22 : decode (mC m_LW_usesThumb) 22 = .ok (.iconst 0, 1) := by decide +kernel
theorem d_LW_usesThumb_23 : decode (mC m_LW_usesThumb) 23 = .ok (.ireturn, 1) := by decide +kernel
theorem hc_LW_usesThumb_1 : HC m_LW_usesThumb 4 "java/lang/IndexOutOfBoundsException" 19 := ⟨[], (0, 16, 19, 34), [], rfl, (fun z hz => absurd hz List.not_mem_nil), ⟨by decide, by decide⟩, by decide, rfl, "java/lang/IndexOutOfBoundsException", tg_4 171 rfl rfl, tn_4 186 rfl rfl⟩
def m_LW_fineIfVisited : Mt := (⟨"HonestScalesLaw", "fineIfVisited", "(LHonestScales;I[J)I"⟩, method_39_code, 4, (Option.some Jvm.ClassFile.FieldType.int), [((0 : Nat), (9 : Nat), (12 : Nat), (34 : Nat))], 34, 1088)
theorem mx_LW_fineIfVisited : MSX m_LW_fineIfVisited 3 := ⟨by decide, tg_5 211 rfl rfl, tg_1 0 rfl rfl, tg_5 212 rfl rfl, ⟨by decide, by decide, by decide +kernel⟩⟩
theorem st_LW_fineIfVisited_131 : ST m_LW_fineIfVisited 131 m_HS_fineIfVisited := ⟨tg_5 213 rfl rfl, by decide, by decide⟩
theorem d_LW_fineIfVisited_0 : decode (mC m_LW_fineIfVisited) 0 = .ok (.aload_n 2, 1) := by decide +kernel
theorem d_LW_fineIfVisited_1 : decode (mC m_LW_fineIfVisited) 1 = .ok (.iconst 0, 1) := by decide +kernel
theorem d_LW_fineIfVisited_2 : decode (mC m_LW_fineIfVisited) 2 = .ok (.aload_n 0, 1) := by decide +kernel
theorem d_LW_fineIfVisited_3 : decode (mC m_LW_fineIfVisited) 3 = .ok (.iload_n 1, 1) := by decide +kernel
theorem d_LW_fineIfVisited_4 : decode (mC m_LW_fineIfVisited) 4 = .ok (.invokevirtual 131, 3) := by decide +kernel
theorem d_LW_fineIfVisited_7 : decode (mC m_LW_fineIfVisited) 7 = .ok (.i2l, 1) := by decide +kernel
theorem d_LW_fineIfVisited_8 : decode (mC m_LW_fineIfVisited) 8 = .ok (.lastore, 1) := by decide +kernel
theorem d_LW_fineIfVisited_9 : decode (mC m_LW_fineIfVisited) 9 = .ok (.goto 6, 3) := by decide +kernel
theorem d_LW_fineIfVisited_12 : decode (mC m_LW_fineIfVisited) 12 = .ok (.astore_n 3, 1) := by decide +kernel
theorem d_LW_fineIfVisited_13 : decode (mC m_LW_fineIfVisited) 13 = .ok (.iconst 1, 1) := by decide +kernel
theorem d_LW_fineIfVisited_14 : decode (mC m_LW_fineIfVisited) 14 = .ok (.ireturn, 1) := by decide +kernel
theorem d_LW_fineIfVisited_15 : decode (mC m_LW_fineIfVisited) 15 = .ok (.iconst 0, 1) := by decide +kernel
theorem d_LW_fineIfVisited_16 : decode (mC m_LW_fineIfVisited) 16 = .ok (.ireturn, 1) := by decide +kernel
theorem hc_LW_fineIfVisited_1 : HC m_LW_fineIfVisited 4 "java/lang/IndexOutOfBoundsException" 12 := ⟨[], (0, 9, 12, 34), [], rfl, (fun z hz => absurd hz List.not_mem_nil), ⟨by decide, by decide⟩, by decide, rfl, "java/lang/IndexOutOfBoundsException", tg_4 171 rfl rfl, tn_4 186 rfl rfl⟩
def m_LW_whyFail : Mt := (⟨"HonestScalesLaw", "whyFail", "(LHonestScales;I[J)I"⟩, method_40_code, 4, (Option.some Jvm.ClassFile.FieldType.int), [((0 : Nat), (9 : Nat), (12 : Nat), (34 : Nat))], 35, 1111)
theorem mx_LW_whyFail : MSX m_LW_whyFail 3 := ⟨by decide, tg_5 219 rfl rfl, tg_1 0 rfl rfl, tg_5 220 rfl rfl, ⟨by decide, by decide, by decide +kernel⟩⟩
theorem st_LW_whyFail_134 : ST m_LW_whyFail 134 m_HS_whyFail := ⟨tg_5 221 rfl rfl, by decide, by decide⟩
theorem d_LW_whyFail_0 : decode (mC m_LW_whyFail) 0 = .ok (.aload_n 2, 1) := by decide +kernel
theorem d_LW_whyFail_1 : decode (mC m_LW_whyFail) 1 = .ok (.iconst 0, 1) := by decide +kernel
theorem d_LW_whyFail_2 : decode (mC m_LW_whyFail) 2 = .ok (.aload_n 0, 1) := by decide +kernel
theorem d_LW_whyFail_3 : decode (mC m_LW_whyFail) 3 = .ok (.iload_n 1, 1) := by decide +kernel
theorem d_LW_whyFail_4 : decode (mC m_LW_whyFail) 4 = .ok (.invokevirtual 134, 3) := by decide +kernel
theorem d_LW_whyFail_7 : decode (mC m_LW_whyFail) 7 = .ok (.i2l, 1) := by decide +kernel
theorem d_LW_whyFail_8 : decode (mC m_LW_whyFail) 8 = .ok (.lastore, 1) := by decide +kernel
theorem d_LW_whyFail_9 : decode (mC m_LW_whyFail) 9 = .ok (.goto 6, 3) := by decide +kernel
theorem d_LW_whyFail_12 : decode (mC m_LW_whyFail) 12 = .ok (.astore_n 3, 1) := by decide +kernel
theorem d_LW_whyFail_13 : decode (mC m_LW_whyFail) 13 = .ok (.iconst 1, 1) := by decide +kernel
theorem d_LW_whyFail_14 : decode (mC m_LW_whyFail) 14 = .ok (.ireturn, 1) := by decide +kernel
theorem d_LW_whyFail_15 : decode (mC m_LW_whyFail) 15 = .ok (.iconst 0, 1) := by decide +kernel
theorem d_LW_whyFail_16 : decode (mC m_LW_whyFail) 16 = .ok (.ireturn, 1) := by decide +kernel
theorem hc_LW_whyFail_1 : HC m_LW_whyFail 4 "java/lang/IndexOutOfBoundsException" 12 := ⟨[], (0, 9, 12, 34), [], rfl, (fun z hz => absurd hz List.not_mem_nil), ⟨by decide, by decide⟩, by decide, rfl, "java/lang/IndexOutOfBoundsException", tg_4 171 rfl rfl, tn_4 186 rfl rfl⟩
def m_LW_nextGain : Mt := (⟨"HonestScalesLaw", "nextGain", "(LHonestScales;I[J)I"⟩, method_41_code, 4, (Option.some Jvm.ClassFile.FieldType.int), [((0 : Nat), (9 : Nat), (12 : Nat), (34 : Nat))], 33, 1065)
theorem mx_LW_nextGain : MSX m_LW_nextGain 3 := ⟨by decide, tg_5 226 rfl rfl, tg_1 0 rfl rfl, tg_5 227 rfl rfl, ⟨by decide, by decide, by decide +kernel⟩⟩
theorem st_LW_nextGain_137 : ST m_LW_nextGain 137 m_HS_nextGain := ⟨tg_5 228 rfl rfl, by decide, by decide⟩
theorem d_LW_nextGain_0 : decode (mC m_LW_nextGain) 0 = .ok (.aload_n 2, 1) := by decide +kernel
theorem d_LW_nextGain_1 : decode (mC m_LW_nextGain) 1 = .ok (.iconst 0, 1) := by decide +kernel
theorem d_LW_nextGain_2 : decode (mC m_LW_nextGain) 2 = .ok (.aload_n 0, 1) := by decide +kernel
theorem d_LW_nextGain_3 : decode (mC m_LW_nextGain) 3 = .ok (.iload_n 1, 1) := by decide +kernel
theorem d_LW_nextGain_4 : decode (mC m_LW_nextGain) 4 = .ok (.invokevirtual 137, 3) := by decide +kernel
theorem d_LW_nextGain_7 : decode (mC m_LW_nextGain) 7 = .ok (.i2l, 1) := by decide +kernel
theorem d_LW_nextGain_8 : decode (mC m_LW_nextGain) 8 = .ok (.lastore, 1) := by decide +kernel
theorem d_LW_nextGain_9 : decode (mC m_LW_nextGain) 9 = .ok (.goto 6, 3) := by decide +kernel
theorem d_LW_nextGain_12 : decode (mC m_LW_nextGain) 12 = .ok (.astore_n 3, 1) := by decide +kernel
theorem d_LW_nextGain_13 : decode (mC m_LW_nextGain) 13 = .ok (.iconst 1, 1) := by decide +kernel
theorem d_LW_nextGain_14 : decode (mC m_LW_nextGain) 14 = .ok (.ireturn, 1) := by decide +kernel
theorem d_LW_nextGain_15 : decode (mC m_LW_nextGain) 15 = .ok (.iconst 0, 1) := by decide +kernel
theorem d_LW_nextGain_16 : decode (mC m_LW_nextGain) 16 = .ok (.ireturn, 1) := by decide +kernel
theorem hc_LW_nextGain_1 : HC m_LW_nextGain 4 "java/lang/IndexOutOfBoundsException" 12 := ⟨[], (0, 9, 12, 34), [], rfl, (fun z hz => absurd hz List.not_mem_nil), ⟨by decide, by decide⟩, by decide, rfl, "java/lang/IndexOutOfBoundsException", tg_4 171 rfl rfl, tn_4 186 rfl rfl⟩
def m_LW_daysUntilFalse : Mt := (⟨"HonestScalesLaw", "daysUntilFalse", "(LHonestScales;I[J)I"⟩, method_42_code, 4, (Option.some Jvm.ClassFile.FieldType.int), [((0 : Nat), (9 : Nat), (12 : Nat), (34 : Nat))], 35, 1110)
theorem mx_LW_daysUntilFalse : MSX m_LW_daysUntilFalse 3 := ⟨by decide, tg_5 235 rfl rfl, tg_1 0 rfl rfl, tg_5 236 rfl rfl, ⟨by decide, by decide, by decide +kernel⟩⟩
theorem st_LW_daysUntilFalse_140 : ST m_LW_daysUntilFalse 140 m_HS_daysUntilFalse := ⟨tg_5 237 rfl rfl, by decide, by decide⟩
theorem d_LW_daysUntilFalse_0 : decode (mC m_LW_daysUntilFalse) 0 = .ok (.aload_n 2, 1) := by decide +kernel
theorem d_LW_daysUntilFalse_1 : decode (mC m_LW_daysUntilFalse) 1 = .ok (.iconst 0, 1) := by decide +kernel
theorem d_LW_daysUntilFalse_2 : decode (mC m_LW_daysUntilFalse) 2 = .ok (.aload_n 0, 1) := by decide +kernel
theorem d_LW_daysUntilFalse_3 : decode (mC m_LW_daysUntilFalse) 3 = .ok (.iload_n 1, 1) := by decide +kernel
theorem d_LW_daysUntilFalse_4 : decode (mC m_LW_daysUntilFalse) 4 = .ok (.invokevirtual 140, 3) := by decide +kernel
theorem d_LW_daysUntilFalse_7 : decode (mC m_LW_daysUntilFalse) 7 = .ok (.i2l, 1) := by decide +kernel
theorem d_LW_daysUntilFalse_8 : decode (mC m_LW_daysUntilFalse) 8 = .ok (.lastore, 1) := by decide +kernel
theorem d_LW_daysUntilFalse_9 : decode (mC m_LW_daysUntilFalse) 9 = .ok (.goto 6, 3) := by decide +kernel
theorem d_LW_daysUntilFalse_12 : decode (mC m_LW_daysUntilFalse) 12 = .ok (.astore_n 3, 1) := by decide +kernel
theorem d_LW_daysUntilFalse_13 : decode (mC m_LW_daysUntilFalse) 13 = .ok (.iconst 1, 1) := by decide +kernel
theorem d_LW_daysUntilFalse_14 : decode (mC m_LW_daysUntilFalse) 14 = .ok (.ireturn, 1) := by decide +kernel
theorem d_LW_daysUntilFalse_15 : decode (mC m_LW_daysUntilFalse) 15 = .ok (.iconst 0, 1) := by decide +kernel
theorem d_LW_daysUntilFalse_16 : decode (mC m_LW_daysUntilFalse) 16 = .ok (.ireturn, 1) := by decide +kernel
theorem hc_LW_daysUntilFalse_1 : HC m_LW_daysUntilFalse 4 "java/lang/IndexOutOfBoundsException" 12 := ⟨[], (0, 9, 12, 34), [], rfl, (fun z hz => absurd hz List.not_mem_nil), ⟨by decide, by decide⟩, by decide, rfl, "java/lang/IndexOutOfBoundsException", tg_4 171 rfl rfl, tn_4 186 rfl rfl⟩
def m_LW_purseAfter : Mt := (⟨"HonestScalesLaw", "purseAfter", "(LHonestScales;II[J)I"⟩, method_43_code, 5, (Option.some Jvm.ClassFile.FieldType.int), [((0 : Nat), (10 : Nat), (13 : Nat), (34 : Nat)), ((0 : Nat), (10 : Nat), (17 : Nat), (19 : Nat))], 36, 1137)
theorem mx_LW_purseAfter : MSX m_LW_purseAfter 4 := ⟨by decide, tg_6 3 rfl rfl, tg_1 0 rfl rfl, tg_6 4 rfl rfl, ⟨by decide, by decide, by decide +kernel⟩⟩
theorem st_LW_purseAfter_143 : ST m_LW_purseAfter 143 m_HS_purseAfter := ⟨tg_6 5 rfl rfl, by decide, by decide⟩
theorem d_LW_purseAfter_0 : decode (mC m_LW_purseAfter) 0 = .ok (.aload_n 3, 1) := by decide +kernel
theorem d_LW_purseAfter_1 : decode (mC m_LW_purseAfter) 1 = .ok (.iconst 0, 1) := by decide +kernel
theorem d_LW_purseAfter_2 : decode (mC m_LW_purseAfter) 2 = .ok (.aload_n 0, 1) := by decide +kernel
theorem d_LW_purseAfter_3 : decode (mC m_LW_purseAfter) 3 = .ok (.iload_n 1, 1) := by decide +kernel
theorem d_LW_purseAfter_4 : decode (mC m_LW_purseAfter) 4 = .ok (.iload_n 2, 1) := by decide +kernel
theorem d_LW_purseAfter_5 : decode (mC m_LW_purseAfter) 5 = .ok (.invokevirtual 143, 3) := by decide +kernel
theorem d_LW_purseAfter_8 : decode (mC m_LW_purseAfter) 8 = .ok (.i2l, 1) := by decide +kernel
theorem d_LW_purseAfter_9 : decode (mC m_LW_purseAfter) 9 = .ok (.lastore, 1) := by decide +kernel
theorem d_LW_purseAfter_10 : decode (mC m_LW_purseAfter) 10 = .ok (.goto 11, 3) := by decide +kernel
theorem d_LW_purseAfter_13 : decode (mC m_LW_purseAfter) 13 = .ok (.astore 4, 2) := by decide +kernel
theorem d_LW_purseAfter_15 : decode (mC m_LW_purseAfter) 15 = .ok (.iconst 1, 1) := by decide +kernel
theorem d_LW_purseAfter_16 : decode (mC m_LW_purseAfter) 16 = .ok (.ireturn, 1) := by decide +kernel
theorem d_LW_purseAfter_17 : decode (mC m_LW_purseAfter) 17 = .ok (.astore 4, 2) := by decide +kernel
theorem d_LW_purseAfter_19 : decode (mC m_LW_purseAfter) 19 = .ok (.iconst 2, 1) := by decide +kernel
theorem d_LW_purseAfter_20 : decode (mC m_LW_purseAfter) 20 = .ok (.ireturn, 1) := by decide +kernel
theorem d_LW_purseAfter_21 : decode (mC m_LW_purseAfter) 21 = .ok (.iconst 0, 1) := by decide +kernel
theorem d_LW_purseAfter_22 : decode (mC m_LW_purseAfter) 22 = .ok (.ireturn, 1) := by decide +kernel
theorem hc_LW_purseAfter_1 : HC m_LW_purseAfter 5 "java/lang/IndexOutOfBoundsException" 13 := ⟨[], (0, 10, 13, 34), [(0, 10, 17, 19)], rfl, (fun z hz => absurd hz List.not_mem_nil), ⟨by decide, by decide⟩, by decide, rfl, "java/lang/IndexOutOfBoundsException", tg_4 171 rfl rfl, tn_4 186 rfl rfl⟩
theorem hc_LW_purseAfter_2 : HC m_LW_purseAfter 5 "java/lang/IllegalArgumentException" 17 := ⟨[(0, 10, 13, 34)], (0, 10, 17, 19), [], rfl, (fun z hz => by
    simp only [List.mem_cons, List.not_mem_nil, or_false] at hz
    subst hz
    exact ⟨by decide, "java/lang/IndexOutOfBoundsException", tg_4 171 rfl rfl, by decide⟩), ⟨by decide, by decide⟩, by decide, rfl, "java/lang/IllegalArgumentException", tg_4 42 rfl rfl, tn_4 52 rfl rfl⟩
def m_LW_bestThumb : Mt := (⟨"HonestScalesLaw", "bestThumb", "(LHonestScales;II[J)I"⟩, method_44_code, 5, (Option.some Jvm.ClassFile.FieldType.int), [((0 : Nat), (10 : Nat), (13 : Nat), (34 : Nat)), ((0 : Nat), (10 : Nat), (17 : Nat), (19 : Nat))], 36, 1141)
theorem mx_LW_bestThumb : MSX m_LW_bestThumb 4 := ⟨by decide, tg_6 10 rfl rfl, tg_1 0 rfl rfl, tg_6 11 rfl rfl, ⟨by decide, by decide, by decide +kernel⟩⟩
theorem st_LW_bestThumb_146 : ST m_LW_bestThumb 146 m_HS_bestThumb := ⟨tg_6 12 rfl rfl, by decide, by decide⟩
theorem d_LW_bestThumb_0 : decode (mC m_LW_bestThumb) 0 = .ok (.aload_n 3, 1) := by decide +kernel
theorem d_LW_bestThumb_1 : decode (mC m_LW_bestThumb) 1 = .ok (.iconst 0, 1) := by decide +kernel
theorem d_LW_bestThumb_2 : decode (mC m_LW_bestThumb) 2 = .ok (.aload_n 0, 1) := by decide +kernel
theorem d_LW_bestThumb_3 : decode (mC m_LW_bestThumb) 3 = .ok (.iload_n 1, 1) := by decide +kernel
theorem d_LW_bestThumb_4 : decode (mC m_LW_bestThumb) 4 = .ok (.iload_n 2, 1) := by decide +kernel
theorem d_LW_bestThumb_5 : decode (mC m_LW_bestThumb) 5 = .ok (.invokevirtual 146, 3) := by decide +kernel
theorem d_LW_bestThumb_8 : decode (mC m_LW_bestThumb) 8 = .ok (.i2l, 1) := by decide +kernel
theorem d_LW_bestThumb_9 : decode (mC m_LW_bestThumb) 9 = .ok (.lastore, 1) := by decide +kernel
theorem d_LW_bestThumb_10 : decode (mC m_LW_bestThumb) 10 = .ok (.goto 11, 3) := by decide +kernel
theorem d_LW_bestThumb_13 : decode (mC m_LW_bestThumb) 13 = .ok (.astore 4, 2) := by decide +kernel
theorem d_LW_bestThumb_15 : decode (mC m_LW_bestThumb) 15 = .ok (.iconst 1, 1) := by decide +kernel
theorem d_LW_bestThumb_16 : decode (mC m_LW_bestThumb) 16 = .ok (.ireturn, 1) := by decide +kernel
theorem d_LW_bestThumb_17 : decode (mC m_LW_bestThumb) 17 = .ok (.astore 4, 2) := by decide +kernel
theorem d_LW_bestThumb_19 : decode (mC m_LW_bestThumb) 19 = .ok (.iconst 2, 1) := by decide +kernel
theorem d_LW_bestThumb_20 : decode (mC m_LW_bestThumb) 20 = .ok (.ireturn, 1) := by decide +kernel
theorem d_LW_bestThumb_21 : decode (mC m_LW_bestThumb) 21 = .ok (.iconst 0, 1) := by decide +kernel
theorem d_LW_bestThumb_22 : decode (mC m_LW_bestThumb) 22 = .ok (.ireturn, 1) := by decide +kernel
theorem hc_LW_bestThumb_1 : HC m_LW_bestThumb 5 "java/lang/IndexOutOfBoundsException" 13 := ⟨[], (0, 10, 13, 34), [(0, 10, 17, 19)], rfl, (fun z hz => absurd hz List.not_mem_nil), ⟨by decide, by decide⟩, by decide, rfl, "java/lang/IndexOutOfBoundsException", tg_4 171 rfl rfl, tn_4 186 rfl rfl⟩
theorem hc_LW_bestThumb_2 : HC m_LW_bestThumb 5 "java/lang/IllegalArgumentException" 17 := ⟨[(0, 10, 13, 34)], (0, 10, 17, 19), [], rfl, (fun z hz => by
    simp only [List.mem_cons, List.not_mem_nil, or_false] at hz
    subst hz
    exact ⟨by decide, "java/lang/IndexOutOfBoundsException", tg_4 171 rfl rfl, by decide⟩), ⟨by decide, by decide⟩, by decide, rfl, "java/lang/IllegalArgumentException", tg_4 42 rfl rfl, tn_4 52 rfl rfl⟩
def m_LW_ounces : Mt := (⟨"HonestScalesLaw", "ounces", "(LHonestScales;I[J)I"⟩, method_45_code, 4, (Option.some Jvm.ClassFile.FieldType.int), [((0 : Nat), (9 : Nat), (12 : Nat), (34 : Nat))], 34, 1087)
theorem mx_LW_ounces : MSX m_LW_ounces 3 := ⟨by decide, tg_6 17 rfl rfl, tg_1 0 rfl rfl, tg_6 18 rfl rfl, ⟨by decide, by decide, by decide +kernel⟩⟩
theorem st_LW_ounces_149 : ST m_LW_ounces 149 m_HS_ounces := ⟨tg_6 19 rfl rfl, by decide, by decide⟩
theorem d_LW_ounces_0 : decode (mC m_LW_ounces) 0 = .ok (.aload_n 2, 1) := by decide +kernel
theorem d_LW_ounces_1 : decode (mC m_LW_ounces) 1 = .ok (.iconst 0, 1) := by decide +kernel
theorem d_LW_ounces_2 : decode (mC m_LW_ounces) 2 = .ok (.aload_n 0, 1) := by decide +kernel
theorem d_LW_ounces_3 : decode (mC m_LW_ounces) 3 = .ok (.iload_n 1, 1) := by decide +kernel
theorem d_LW_ounces_4 : decode (mC m_LW_ounces) 4 = .ok (.invokevirtual 149, 3) := by decide +kernel
theorem d_LW_ounces_7 : decode (mC m_LW_ounces) 7 = .ok (.i2l, 1) := by decide +kernel
theorem d_LW_ounces_8 : decode (mC m_LW_ounces) 8 = .ok (.lastore, 1) := by decide +kernel
theorem d_LW_ounces_9 : decode (mC m_LW_ounces) 9 = .ok (.goto 6, 3) := by decide +kernel
theorem d_LW_ounces_12 : decode (mC m_LW_ounces) 12 = .ok (.astore_n 3, 1) := by decide +kernel
theorem d_LW_ounces_13 : decode (mC m_LW_ounces) 13 = .ok (.iconst 1, 1) := by decide +kernel
theorem d_LW_ounces_14 : decode (mC m_LW_ounces) 14 = .ok (.ireturn, 1) := by decide +kernel
theorem d_LW_ounces_15 : decode (mC m_LW_ounces) 15 = .ok (.iconst 0, 1) := by decide +kernel
theorem d_LW_ounces_16 : decode (mC m_LW_ounces) 16 = .ok (.ireturn, 1) := by decide +kernel
theorem hc_LW_ounces_1 : HC m_LW_ounces 4 "java/lang/IndexOutOfBoundsException" 12 := ⟨[], (0, 9, 12, 34), [], rfl, (fun z hz => absurd hz List.not_mem_nil), ⟨by decide, by decide⟩, by decide, rfl, "java/lang/IndexOutOfBoundsException", tg_4 171 rfl rfl, tn_4 186 rfl rfl⟩
def m_LW_expiringStamps : Mt := (⟨"HonestScalesLaw", "expiringStamps", "(LHonestScales;I[J)I"⟩, method_46_code, 4, (Option.some Jvm.ClassFile.FieldType.int), [((0 : Nat), (9 : Nat), (12 : Nat), (19 : Nat))], 32, 1046)
theorem mx_LW_expiringStamps : MSX m_LW_expiringStamps 3 := ⟨by decide, tg_6 25 rfl rfl, tg_1 0 rfl rfl, tg_6 26 rfl rfl, ⟨by decide, by decide, by decide +kernel⟩⟩
theorem st_LW_expiringStamps_152 : ST m_LW_expiringStamps 152 m_HS_expiringStamps := ⟨tg_6 27 rfl rfl, by decide, by decide⟩
theorem d_LW_expiringStamps_0 : decode (mC m_LW_expiringStamps) 0 = .ok (.aload_n 2, 1) := by decide +kernel
theorem d_LW_expiringStamps_1 : decode (mC m_LW_expiringStamps) 1 = .ok (.iconst 0, 1) := by decide +kernel
theorem d_LW_expiringStamps_2 : decode (mC m_LW_expiringStamps) 2 = .ok (.aload_n 0, 1) := by decide +kernel
theorem d_LW_expiringStamps_3 : decode (mC m_LW_expiringStamps) 3 = .ok (.iload_n 1, 1) := by decide +kernel
theorem d_LW_expiringStamps_4 : decode (mC m_LW_expiringStamps) 4 = .ok (.invokevirtual 152, 3) := by decide +kernel
theorem d_LW_expiringStamps_7 : decode (mC m_LW_expiringStamps) 7 = .ok (.i2l, 1) := by decide +kernel
theorem d_LW_expiringStamps_8 : decode (mC m_LW_expiringStamps) 8 = .ok (.lastore, 1) := by decide +kernel
theorem d_LW_expiringStamps_9 : decode (mC m_LW_expiringStamps) 9 = .ok (.goto 6, 3) := by decide +kernel
theorem d_LW_expiringStamps_12 : decode (mC m_LW_expiringStamps) 12 = .ok (.astore_n 3, 1) := by decide +kernel
theorem d_LW_expiringStamps_13 : decode (mC m_LW_expiringStamps) 13 = .ok (.iconst 1, 1) := by decide +kernel
theorem d_LW_expiringStamps_14 : decode (mC m_LW_expiringStamps) 14 = .ok (.ireturn, 1) := by decide +kernel
theorem d_LW_expiringStamps_15 : decode (mC m_LW_expiringStamps) 15 = .ok (.iconst 0, 1) := by decide +kernel
theorem d_LW_expiringStamps_16 : decode (mC m_LW_expiringStamps) 16 = .ok (.ireturn, 1) := by decide +kernel
theorem hc_LW_expiringStamps_1 : HC m_LW_expiringStamps 4 "java/lang/IllegalArgumentException" 12 := ⟨[], (0, 9, 12, 19), [], rfl, (fun z hz => absurd hz List.not_mem_nil), ⟨by decide, by decide⟩, by decide, rfl, "java/lang/IllegalArgumentException", tg_4 42 rfl rfl, tn_4 52 rfl rfl⟩
def m_LW_daysUntilClosed : Mt := (⟨"HonestScalesLaw", "daysUntilClosed", "(LHonestScales;I[J)I"⟩, method_47_code, 4, (Option.some Jvm.ClassFile.FieldType.int), [((0 : Nat), (9 : Nat), (12 : Nat), (34 : Nat))], 36, 1138)
theorem mx_LW_daysUntilClosed : MSX m_LW_daysUntilClosed 3 := ⟨by decide, tg_6 32 rfl rfl, tg_1 0 rfl rfl, tg_6 33 rfl rfl, ⟨by decide, by decide, by decide +kernel⟩⟩
theorem st_LW_daysUntilClosed_155 : ST m_LW_daysUntilClosed 155 m_HS_daysUntilClosed := ⟨tg_6 34 rfl rfl, by decide, by decide⟩
theorem d_LW_daysUntilClosed_0 : decode (mC m_LW_daysUntilClosed) 0 = .ok (.aload_n 2, 1) := by decide +kernel
theorem d_LW_daysUntilClosed_1 : decode (mC m_LW_daysUntilClosed) 1 = .ok (.iconst 0, 1) := by decide +kernel
theorem d_LW_daysUntilClosed_2 : decode (mC m_LW_daysUntilClosed) 2 = .ok (.aload_n 0, 1) := by decide +kernel
theorem d_LW_daysUntilClosed_3 : decode (mC m_LW_daysUntilClosed) 3 = .ok (.iload_n 1, 1) := by decide +kernel
theorem d_LW_daysUntilClosed_4 : decode (mC m_LW_daysUntilClosed) 4 = .ok (.invokevirtual 155, 3) := by decide +kernel
theorem d_LW_daysUntilClosed_7 : decode (mC m_LW_daysUntilClosed) 7 = .ok (.i2l, 1) := by decide +kernel
theorem d_LW_daysUntilClosed_8 : decode (mC m_LW_daysUntilClosed) 8 = .ok (.lastore, 1) := by decide +kernel
theorem d_LW_daysUntilClosed_9 : decode (mC m_LW_daysUntilClosed) 9 = .ok (.goto 6, 3) := by decide +kernel
theorem d_LW_daysUntilClosed_12 : decode (mC m_LW_daysUntilClosed) 12 = .ok (.astore_n 3, 1) := by decide +kernel
theorem d_LW_daysUntilClosed_13 : decode (mC m_LW_daysUntilClosed) 13 = .ok (.iconst 1, 1) := by decide +kernel
theorem d_LW_daysUntilClosed_14 : decode (mC m_LW_daysUntilClosed) 14 = .ok (.ireturn, 1) := by decide +kernel
theorem d_LW_daysUntilClosed_15 : decode (mC m_LW_daysUntilClosed) 15 = .ok (.iconst 0, 1) := by decide +kernel
theorem d_LW_daysUntilClosed_16 : decode (mC m_LW_daysUntilClosed) 16 = .ok (.ireturn, 1) := by decide +kernel
theorem hc_LW_daysUntilClosed_1 : HC m_LW_daysUntilClosed 4 "java/lang/IndexOutOfBoundsException" 12 := ⟨[], (0, 9, 12, 34), [], rfl, (fun z hz => absurd hz List.not_mem_nil), ⟨by decide, by decide⟩, by decide, rfl, "java/lang/IndexOutOfBoundsException", tg_4 171 rfl rfl, tn_4 186 rfl rfl⟩
def m_LW_writeShop : Mt := (⟨"HonestScalesLaw", "writeShop", "(LHonestScales;I[J)I"⟩, method_48_code, 4, (Option.some Jvm.ClassFile.FieldType.int), [((0 : Nat), (9 : Nat), (12 : Nat), (34 : Nat))], 35, 1109)
theorem mx_LW_writeShop : MSX m_LW_writeShop 3 := ⟨by decide, tg_6 39 rfl rfl, tg_1 0 rfl rfl, tg_6 40 rfl rfl, ⟨by decide, by decide, by decide +kernel⟩⟩
theorem st_LW_writeShop_158 : ST m_LW_writeShop 158 m_HS_writeShop := ⟨tg_6 41 rfl rfl, by decide, by decide⟩
theorem d_LW_writeShop_0 : decode (mC m_LW_writeShop) 0 = .ok (.aload_n 2, 1) := by decide +kernel
theorem d_LW_writeShop_1 : decode (mC m_LW_writeShop) 1 = .ok (.iconst 0, 1) := by decide +kernel
theorem d_LW_writeShop_2 : decode (mC m_LW_writeShop) 2 = .ok (.aload_n 0, 1) := by decide +kernel
theorem d_LW_writeShop_3 : decode (mC m_LW_writeShop) 3 = .ok (.iload_n 1, 1) := by decide +kernel
theorem d_LW_writeShop_4 : decode (mC m_LW_writeShop) 4 = .ok (.invokevirtual 158, 3) := by decide +kernel
theorem d_LW_writeShop_7 : decode (mC m_LW_writeShop) 7 = .ok (.i2l, 1) := by decide +kernel
theorem d_LW_writeShop_8 : decode (mC m_LW_writeShop) 8 = .ok (.lastore, 1) := by decide +kernel
theorem d_LW_writeShop_9 : decode (mC m_LW_writeShop) 9 = .ok (.goto 6, 3) := by decide +kernel
theorem d_LW_writeShop_12 : decode (mC m_LW_writeShop) 12 = .ok (.astore_n 3, 1) := by decide +kernel
theorem d_LW_writeShop_13 : decode (mC m_LW_writeShop) 13 = .ok (.iconst 1, 1) := by decide +kernel
theorem d_LW_writeShop_14 : decode (mC m_LW_writeShop) 14 = .ok (.ireturn, 1) := by decide +kernel
theorem d_LW_writeShop_15 : decode (mC m_LW_writeShop) 15 = .ok (.iconst 0, 1) := by decide +kernel
theorem d_LW_writeShop_16 : decode (mC m_LW_writeShop) 16 = .ok (.ireturn, 1) := by decide +kernel
theorem hc_LW_writeShop_1 : HC m_LW_writeShop 4 "java/lang/IndexOutOfBoundsException" 12 := ⟨[], (0, 9, 12, 34), [], rfl, (fun z hz => absurd hz List.not_mem_nil), ⟨by decide, by decide⟩, by decide, rfl, "java/lang/IndexOutOfBoundsException", tg_4 171 rfl rfl, tn_4 186 rfl rfl⟩
