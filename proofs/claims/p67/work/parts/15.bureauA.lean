theorem d_BU_init_0 : decode (mC m_BU_init) 0 = .ok (.aload_n 0, 1) := by decide +kernel
theorem d_BU_init_1 : decode (mC m_BU_init) 1 = .ok (.invokespecial 3, 3) := by decide +kernel
theorem d_BU_init_4 : decode (mC m_BU_init) 4 = .ok (.aload_n 0, 1) := by decide +kernel
theorem d_BU_init_5 : decode (mC m_BU_init) 5 = .ok (.bipush 6, 2) := by decide +kernel
theorem d_BU_init_7 : decode (mC m_BU_init) 7 = .ok (.newarray .int, 2) := by decide +kernel
theorem d_BU_init_9 : decode (mC m_BU_init) 9 = .ok (.putfield 9, 3) := by decide +kernel
theorem d_BU_init_12 : decode (mC m_BU_init) 12 = .ok (.aload_n 0, 1) := by decide +kernel
theorem d_BU_init_13 : decode (mC m_BU_init) 13 = .ok (.bipush 8, 2) := by decide +kernel
theorem d_BU_init_15 : decode (mC m_BU_init) 15 = .ok (.anewarray 15, 3) := by decide +kernel
theorem d_BU_init_18 : decode (mC m_BU_init) 18 = .ok (.putfield 17, 3) := by decide +kernel
theorem d_BU_init_21 : decode (mC m_BU_init) 21 = .ok (.iconst 0, 1) := by decide +kernel
theorem d_BU_init_22 : decode (mC m_BU_init) 22 = .ok (.istore_n 1, 1) := by decide +kernel
theorem d_BU_init_23 : decode (mC m_BU_init) 23 = .ok (.iload_n 1, 1) := by decide +kernel
theorem d_BU_init_24 : decode (mC m_BU_init) 24 = .ok (.bipush 8, 2) := by decide +kernel
theorem d_BU_init_26 : decode (mC m_BU_init) 26 = .ok (.if_icmp .ge 22, 3) := by decide +kernel
theorem d_BU_init_29 : decode (mC m_BU_init) 29 = .ok (.aload_n 0, 1) := by decide +kernel
theorem d_BU_init_30 : decode (mC m_BU_init) 30 = .ok (.getfield 17, 3) := by decide +kernel
theorem d_BU_init_33 : decode (mC m_BU_init) 33 = .ok (.iload_n 1, 1) := by decide +kernel
theorem d_BU_init_34 : decode (mC m_BU_init) 34 = .ok (.new 15, 3) := by decide +kernel
theorem d_BU_init_37 : decode (mC m_BU_init) 37 = .ok (.dup, 1) := by decide +kernel
theorem d_BU_init_38 : decode (mC m_BU_init) 38 = .ok (.invokespecial 21, 3) := by decide +kernel
theorem d_BU_init_41 : decode (mC m_BU_init) 41 = .ok (.aastore, 1) := by decide +kernel
theorem d_BU_init_42 : decode (mC m_BU_init) 42 = .ok (.iinc 1 1, 3) := by decide +kernel
theorem d_BU_init_45 : decode (mC m_BU_init) 45 = .ok (.goto (-22), 3) := by decide +kernel
theorem d_BU_init_48 : decode (mC m_BU_init) 48 = .ok (.return_, 1) := by decide +kernel
theorem oi_BU_init : Cond.methodLink (mY m_BU_init).cls 3 objectInit ∈ tG ∧ Cond.instanceMethod objectInit ∈ tG ∧ Cond.code objectInit ⟨#[0xb1]⟩ 1 none ∈ tG := ⟨tg_1 117 rfl rfl, tg_1 34 rfl rfl, tg_1 35 rfl rfl⟩
theorem d_BU_begin_0 : decode (mC m_BU_begin) 0 = .ok (.aload_n 0, 1) := by decide +kernel
theorem d_BU_begin_1 : decode (mC m_BU_begin) 1 = .ok (.aload_n 1, 1) := by decide +kernel
theorem d_BU_begin_2 : decode (mC m_BU_begin) 2 = .ok (.iconst 0, 1) := by decide +kernel
theorem d_BU_begin_3 : decode (mC m_BU_begin) 3 = .ok (.iaload, 1) := by decide +kernel
theorem d_BU_begin_4 : decode (mC m_BU_begin) 4 = .ok (.putfield 22, 3) := by decide +kernel
theorem d_BU_begin_7 : decode (mC m_BU_begin) 7 = .ok (.aload_n 0, 1) := by decide +kernel
theorem d_BU_begin_8 : decode (mC m_BU_begin) 8 = .ok (.aload_n 1, 1) := by decide +kernel
theorem d_BU_begin_9 : decode (mC m_BU_begin) 9 = .ok (.iconst 1, 1) := by decide +kernel
theorem d_BU_begin_10 : decode (mC m_BU_begin) 10 = .ok (.iaload, 1) := by decide +kernel
theorem d_BU_begin_11 : decode (mC m_BU_begin) 11 = .ok (.putfield 26, 3) := by decide +kernel
theorem d_BU_begin_14 : decode (mC m_BU_begin) 14 = .ok (.aload_n 0, 1) := by decide +kernel
theorem d_BU_begin_15 : decode (mC m_BU_begin) 15 = .ok (.aload_n 1, 1) := by decide +kernel
theorem d_BU_begin_16 : decode (mC m_BU_begin) 16 = .ok (.iconst 2, 1) := by decide +kernel
theorem d_BU_begin_17 : decode (mC m_BU_begin) 17 = .ok (.iaload, 1) := by decide +kernel
theorem d_BU_begin_18 : decode (mC m_BU_begin) 18 = .ok (.putfield 29, 3) := by decide +kernel
theorem d_BU_begin_21 : decode (mC m_BU_begin) 21 = .ok (.aload_n 0, 1) := by decide +kernel
theorem d_BU_begin_22 : decode (mC m_BU_begin) 22 = .ok (.aload_n 1, 1) := by decide +kernel
theorem d_BU_begin_23 : decode (mC m_BU_begin) 23 = .ok (.iconst 3, 1) := by decide +kernel
theorem d_BU_begin_24 : decode (mC m_BU_begin) 24 = .ok (.iaload, 1) := by decide +kernel
theorem d_BU_begin_25 : decode (mC m_BU_begin) 25 = .ok (.putfield 32, 3) := by decide +kernel
theorem d_BU_begin_28 : decode (mC m_BU_begin) 28 = .ok (.aload_n 0, 1) := by decide +kernel
theorem d_BU_begin_29 : decode (mC m_BU_begin) 29 = .ok (.aload_n 1, 1) := by decide +kernel
theorem d_BU_begin_30 : decode (mC m_BU_begin) 30 = .ok (.iconst 4, 1) := by decide +kernel
theorem d_BU_begin_31 : decode (mC m_BU_begin) 31 = .ok (.iaload, 1) := by decide +kernel
theorem d_BU_begin_32 : decode (mC m_BU_begin) 32 = .ok (.putfield 35, 3) := by decide +kernel
theorem d_BU_begin_35 : decode (mC m_BU_begin) 35 = .ok (.aload_n 0, 1) := by decide +kernel
theorem d_BU_begin_36 : decode (mC m_BU_begin) 36 = .ok (.aload_n 1, 1) := by decide +kernel
theorem d_BU_begin_37 : decode (mC m_BU_begin) 37 = .ok (.iconst 5, 1) := by decide +kernel
theorem d_BU_begin_38 : decode (mC m_BU_begin) 38 = .ok (.iaload, 1) := by decide +kernel
theorem d_BU_begin_39 : decode (mC m_BU_begin) 39 = .ok (.putfield 38, 3) := by decide +kernel
theorem d_BU_begin_42 : decode (mC m_BU_begin) 42 = .ok (.aload_n 0, 1) := by decide +kernel
theorem d_BU_begin_43 : decode (mC m_BU_begin) 43 = .ok (.aload_n 1, 1) := by decide +kernel
theorem d_BU_begin_44 : decode (mC m_BU_begin) 44 = .ok (.bipush 6, 2) := by decide +kernel
theorem d_BU_begin_46 : decode (mC m_BU_begin) 46 = .ok (.iaload, 1) := by decide +kernel
theorem d_BU_begin_47 : decode (mC m_BU_begin) 47 = .ok (.putfield 41, 3) := by decide +kernel
theorem d_BU_begin_50 : decode (mC m_BU_begin) 50 = .ok (.aload_n 0, 1) := by decide +kernel
theorem d_BU_begin_51 : decode (mC m_BU_begin) 51 = .ok (.iconst 0, 1) := by decide +kernel
theorem d_BU_begin_52 : decode (mC m_BU_begin) 52 = .ok (.putfield 44, 3) := by decide +kernel
theorem d_BU_begin_55 : decode (mC m_BU_begin) 55 = .ok (.aload_n 0, 1) := by decide +kernel
theorem d_BU_begin_56 : decode (mC m_BU_begin) 56 = .ok (.iconst 0, 1) := by decide +kernel
theorem d_BU_begin_57 : decode (mC m_BU_begin) 57 = .ok (.putfield 47, 3) := by decide +kernel
theorem d_BU_begin_60 : decode (mC m_BU_begin) 60 = .ok (.aload_n 0, 1) := by decide +kernel
theorem d_BU_begin_61 : decode (mC m_BU_begin) 61 = .ok (.iconst 0, 1) := by decide +kernel
theorem d_BU_begin_62 : decode (mC m_BU_begin) 62 = .ok (.putfield 50, 3) := by decide +kernel
theorem d_BU_begin_65 : decode (mC m_BU_begin) 65 = .ok (.aload_n 0, 1) := by decide +kernel
theorem d_BU_begin_66 : decode (mC m_BU_begin) 66 = .ok (.iconst 0, 1) := by decide +kernel
theorem d_BU_begin_67 : decode (mC m_BU_begin) 67 = .ok (.putfield 53, 3) := by decide +kernel
theorem d_BU_begin_70 : decode (mC m_BU_begin) 70 = .ok (.aload_n 0, 1) := by decide +kernel
theorem d_BU_begin_71 : decode (mC m_BU_begin) 71 = .ok (.iconst 0, 1) := by decide +kernel
theorem d_BU_begin_72 : decode (mC m_BU_begin) 72 = .ok (.putfield 56, 3) := by decide +kernel
theorem d_BU_begin_75 : decode (mC m_BU_begin) 75 = .ok (.return_, 1) := by decide +kernel
theorem d_BU_hasWeight_0 : decode (mC m_BU_hasWeight) 0 = .ok (.iconst 0, 1) := by decide +kernel
theorem d_BU_hasWeight_1 : decode (mC m_BU_hasWeight) 1 = .ok (.istore_n 2, 1) := by decide +kernel
theorem d_BU_hasWeight_2 : decode (mC m_BU_hasWeight) 2 = .ok (.iload_n 2, 1) := by decide +kernel
theorem d_BU_hasWeight_3 : decode (mC m_BU_hasWeight) 3 = .ok (.aload_n 0, 1) := by decide +kernel
theorem d_BU_hasWeight_4 : decode (mC m_BU_hasWeight) 4 = .ok (.getfield 53, 3) := by decide +kernel
theorem d_BU_hasWeight_7 : decode (mC m_BU_hasWeight) 7 = .ok (.if_icmp .ge 21, 3) := by decide +kernel
theorem d_BU_hasWeight_10 : decode (mC m_BU_hasWeight) 10 = .ok (.aload_n 0, 1) := by decide +kernel
theorem d_BU_hasWeight_11 : decode (mC m_BU_hasWeight) 11 = .ok (.getfield 9, 3) := by decide +kernel
theorem d_BU_hasWeight_14 : decode (mC m_BU_hasWeight) 14 = .ok (.iload_n 2, 1) := by decide +kernel
theorem d_BU_hasWeight_15 : decode (mC m_BU_hasWeight) 15 = .ok (.iaload, 1) := by decide +kernel
theorem d_BU_hasWeight_16 : decode (mC m_BU_hasWeight) 16 = .ok (.iload_n 1, 1) := by decide +kernel
theorem d_BU_hasWeight_17 : decode (mC m_BU_hasWeight) 17 = .ok (.if_icmp .ne 5, 3) := by decide +kernel
theorem d_BU_hasWeight_20 : decode (mC m_BU_hasWeight) 20 = .ok (.iconst 1, 1) := by decide +kernel
theorem d_BU_hasWeight_21 : decode (mC m_BU_hasWeight) 21 = .ok (.ireturn, 1) := by decide +kernel
theorem d_BU_hasWeight_22 : decode (mC m_BU_hasWeight) 22 = .ok (.iinc 2 1, 3) := by decide +kernel
theorem d_BU_hasWeight_25 : decode (mC m_BU_hasWeight) 25 = .ok (.goto (-23), 3) := by decide +kernel
theorem d_BU_hasWeight_28 : decode (mC m_BU_hasWeight) 28 = .ok (.iconst 0, 1) := by decide +kernel
theorem d_BU_hasWeight_29 : decode (mC m_BU_hasWeight) 29 = .ok (.ireturn, 1) := by decide +kernel
theorem d_BU_addWeight_0 : decode (mC m_BU_addWeight) 0 = .ok (.aload_n 0, 1) := by decide +kernel
theorem d_BU_addWeight_1 : decode (mC m_BU_addWeight) 1 = .ok (.getfield 53, 3) := by decide +kernel
theorem d_BU_addWeight_4 : decode (mC m_BU_addWeight) 4 = .ok (.bipush 6, 2) := by decide +kernel
theorem d_BU_addWeight_6 : decode (mC m_BU_addWeight) 6 = .ok (.if_icmp .ge 23, 3) := by decide +kernel
theorem d_BU_addWeight_9 : decode (mC m_BU_addWeight) 9 = .ok (.aload_n 0, 1) := by decide +kernel
theorem d_BU_addWeight_10 : decode (mC m_BU_addWeight) 10 = .ok (.getfield 9, 3) := by decide +kernel
theorem d_BU_addWeight_13 : decode (mC m_BU_addWeight) 13 = .ok (.aload_n 0, 1) := by decide +kernel
theorem d_BU_addWeight_14 : decode (mC m_BU_addWeight) 14 = .ok (.getfield 53, 3) := by decide +kernel
theorem d_BU_addWeight_17 : decode (mC m_BU_addWeight) 17 = .ok (.iload_n 1, 1) := by decide +kernel
theorem d_BU_addWeight_18 : decode (mC m_BU_addWeight) 18 = .ok (.iastore, 1) := by decide +kernel
theorem d_BU_addWeight_19 : decode (mC m_BU_addWeight) 19 = .ok (.aload_n 0, 1) := by decide +kernel
theorem d_BU_addWeight_20 : decode (mC m_BU_addWeight) 20 = .ok (.dup, 1) := by decide +kernel
theorem d_BU_addWeight_21 : decode (mC m_BU_addWeight) 21 = .ok (.getfield 53, 3) := by decide +kernel
theorem d_BU_addWeight_24 : decode (mC m_BU_addWeight) 24 = .ok (.iconst 1, 1) := by decide +kernel
theorem d_BU_addWeight_25 : decode (mC m_BU_addWeight) 25 = .ok (.iadd, 1) := by decide +kernel
theorem d_BU_addWeight_26 : decode (mC m_BU_addWeight) 26 = .ok (.putfield 53, 3) := by decide +kernel
theorem d_BU_addWeight_29 : decode (mC m_BU_addWeight) 29 = .ok (.return_, 1) := by decide +kernel
theorem d_BU_addShop_0 : decode (mC m_BU_addShop) 0 = .ok (.aload_n 0, 1) := by decide +kernel
theorem d_BU_addShop_1 : decode (mC m_BU_addShop) 1 = .ok (.getfield 56, 3) := by decide +kernel
theorem d_BU_addShop_4 : decode (mC m_BU_addShop) 4 = .ok (.bipush 8, 2) := by decide +kernel
theorem d_BU_addShop_6 : decode (mC m_BU_addShop) 6 = .ok (.if_icmp .ge 26, 3) := by decide +kernel
theorem d_BU_addShop_9 : decode (mC m_BU_addShop) 9 = .ok (.aload_n 0, 1) := by decide +kernel
theorem d_BU_addShop_10 : decode (mC m_BU_addShop) 10 = .ok (.getfield 17, 3) := by decide +kernel
theorem d_BU_addShop_13 : decode (mC m_BU_addShop) 13 = .ok (.aload_n 0, 1) := by decide +kernel
theorem d_BU_addShop_14 : decode (mC m_BU_addShop) 14 = .ok (.getfield 56, 3) := by decide +kernel
theorem d_BU_addShop_17 : decode (mC m_BU_addShop) 17 = .ok (.aaload, 1) := by decide +kernel
theorem d_BU_addShop_18 : decode (mC m_BU_addShop) 18 = .ok (.aload_n 1, 1) := by decide +kernel
theorem d_BU_addShop_19 : decode (mC m_BU_addShop) 19 = .ok (.invokevirtual 59, 3) := by decide +kernel
theorem d_BU_addShop_22 : decode (mC m_BU_addShop) 22 = .ok (.aload_n 0, 1) := by decide +kernel
theorem d_BU_addShop_23 : decode (mC m_BU_addShop) 23 = .ok (.dup, 1) := by decide +kernel
theorem d_BU_addShop_24 : decode (mC m_BU_addShop) 24 = .ok (.getfield 56, 3) := by decide +kernel
theorem d_BU_addShop_27 : decode (mC m_BU_addShop) 27 = .ok (.iconst 1, 1) := by decide +kernel
theorem d_BU_addShop_28 : decode (mC m_BU_addShop) 28 = .ok (.iadd, 1) := by decide +kernel
theorem d_BU_addShop_29 : decode (mC m_BU_addShop) 29 = .ok (.putfield 56, 3) := by decide +kernel
theorem d_BU_addShop_32 : decode (mC m_BU_addShop) 32 = .ok (.return_, 1) := by decide +kernel
theorem d_BU_countOpen_0 : decode (mC m_BU_countOpen) 0 = .ok (.iconst 0, 1) := by decide +kernel
theorem d_BU_countOpen_1 : decode (mC m_BU_countOpen) 1 = .ok (.istore_n 1, 1) := by decide +kernel
theorem d_BU_countOpen_2 : decode (mC m_BU_countOpen) 2 = .ok (.iconst 0, 1) := by decide +kernel
theorem d_BU_countOpen_3 : decode (mC m_BU_countOpen) 3 = .ok (.istore_n 2, 1) := by decide +kernel
theorem d_BU_countOpen_4 : decode (mC m_BU_countOpen) 4 = .ok (.iload_n 2, 1) := by decide +kernel
theorem d_BU_countOpen_5 : decode (mC m_BU_countOpen) 5 = .ok (.aload_n 0, 1) := by decide +kernel
theorem d_BU_countOpen_6 : decode (mC m_BU_countOpen) 6 = .ok (.getfield 56, 3) := by decide +kernel
theorem d_BU_countOpen_9 : decode (mC m_BU_countOpen) 9 = .ok (.if_icmp .ge 24, 3) := by decide +kernel
theorem d_BU_countOpen_12 : decode (mC m_BU_countOpen) 12 = .ok (.aload_n 0, 1) := by decide +kernel
theorem d_BU_countOpen_13 : decode (mC m_BU_countOpen) 13 = .ok (.getfield 17, 3) := by decide +kernel
theorem d_BU_countOpen_16 : decode (mC m_BU_countOpen) 16 = .ok (.iload_n 2, 1) := by decide +kernel
theorem d_BU_countOpen_17 : decode (mC m_BU_countOpen) 17 = .ok (.aaload, 1) := by decide +kernel
theorem d_BU_countOpen_18 : decode (mC m_BU_countOpen) 18 = .ok (.getfield 97, 3) := by decide +kernel
theorem d_BU_countOpen_21 : decode (mC m_BU_countOpen) 21 = .ok (.ifCond .eq 6, 3) := by decide +kernel
theorem d_BU_countOpen_24 : decode (mC m_BU_countOpen) 24 = .ok (.iinc 1 1, 3) := by decide +kernel
theorem d_BU_countOpen_27 : decode (mC m_BU_countOpen) 27 = .ok (.iinc 2 1, 3) := by decide +kernel
theorem d_BU_countOpen_30 : decode (mC m_BU_countOpen) 30 = .ok (.goto (-26), 3) := by decide +kernel
theorem d_BU_countOpen_33 : decode (mC m_BU_countOpen) 33 = .ok (.iload_n 1, 1) := by decide +kernel
theorem d_BU_countOpen_34 : decode (mC m_BU_countOpen) 34 = .ok (.ireturn, 1) := by decide +kernel
theorem d_BU_rankOf_0 : decode (mC m_BU_rankOf) 0 = .ok (.aload_n 0, 1) := by decide +kernel
theorem d_BU_rankOf_1 : decode (mC m_BU_rankOf) 1 = .ok (.getfield 17, 3) := by decide +kernel
theorem d_BU_rankOf_4 : decode (mC m_BU_rankOf) 4 = .ok (.iload_n 1, 1) := by decide +kernel
theorem d_BU_rankOf_5 : decode (mC m_BU_rankOf) 5 = .ok (.aaload, 1) := by decide +kernel
theorem d_BU_rankOf_6 : decode (mC m_BU_rankOf) 6 = .ok (.getfield 101, 3) := by decide +kernel
theorem d_BU_rankOf_9 : decode (mC m_BU_rankOf) 9 = .ok (.istore_n 2, 1) := by decide +kernel
theorem d_BU_rankOf_10 : decode (mC m_BU_rankOf) 10 = .ok (.iconst 0, 1) := by decide +kernel
theorem d_BU_rankOf_11 : decode (mC m_BU_rankOf) 11 = .ok (.istore_n 3, 1) := by decide +kernel
theorem d_BU_rankOf_12 : decode (mC m_BU_rankOf) 12 = .ok (.iconst 0, 1) := by decide +kernel
theorem d_BU_rankOf_13 : decode (mC m_BU_rankOf) 13 = .ok (.istore 4, 2) := by decide +kernel
theorem d_BU_rankOf_15 : decode (mC m_BU_rankOf) 15 = .ok (.iload 4, 2) := by decide +kernel
theorem d_BU_rankOf_17 : decode (mC m_BU_rankOf) 17 = .ok (.aload_n 0, 1) := by decide +kernel
theorem d_BU_rankOf_18 : decode (mC m_BU_rankOf) 18 = .ok (.getfield 56, 3) := by decide +kernel
theorem d_BU_rankOf_21 : decode (mC m_BU_rankOf) 21 = .ok (.if_icmp .ge 42, 3) := by decide +kernel
theorem d_BU_rankOf_24 : decode (mC m_BU_rankOf) 24 = .ok (.aload_n 0, 1) := by decide +kernel
theorem d_BU_rankOf_25 : decode (mC m_BU_rankOf) 25 = .ok (.getfield 17, 3) := by decide +kernel
theorem d_BU_rankOf_28 : decode (mC m_BU_rankOf) 28 = .ok (.iload 4, 2) := by decide +kernel
theorem d_BU_rankOf_30 : decode (mC m_BU_rankOf) 30 = .ok (.aaload, 1) := by decide +kernel
theorem d_BU_rankOf_31 : decode (mC m_BU_rankOf) 31 = .ok (.getfield 101, 3) := by decide +kernel
theorem d_BU_rankOf_34 : decode (mC m_BU_rankOf) 34 = .ok (.istore 5, 2) := by decide +kernel
theorem d_BU_rankOf_36 : decode (mC m_BU_rankOf) 36 = .ok (.iload 5, 2) := by decide +kernel
theorem d_BU_rankOf_38 : decode (mC m_BU_rankOf) 38 = .ok (.iload_n 2, 1) := by decide +kernel
theorem d_BU_rankOf_39 : decode (mC m_BU_rankOf) 39 = .ok (.if_icmp .gt 15, 3) := by decide +kernel
theorem d_BU_rankOf_42 : decode (mC m_BU_rankOf) 42 = .ok (.iload 5, 2) := by decide +kernel
theorem d_BU_rankOf_44 : decode (mC m_BU_rankOf) 44 = .ok (.iload_n 2, 1) := by decide +kernel
theorem d_BU_rankOf_45 : decode (mC m_BU_rankOf) 45 = .ok (.if_icmp .ne 12, 3) := by decide +kernel
theorem d_BU_rankOf_48 : decode (mC m_BU_rankOf) 48 = .ok (.iload 4, 2) := by decide +kernel
theorem d_BU_rankOf_50 : decode (mC m_BU_rankOf) 50 = .ok (.iload_n 1, 1) := by decide +kernel
theorem d_BU_rankOf_51 : decode (mC m_BU_rankOf) 51 = .ok (.if_icmp .ge 6, 3) := by decide +kernel
theorem d_BU_rankOf_54 : decode (mC m_BU_rankOf) 54 = .ok (.iinc 3 1, 3) := by decide +kernel
theorem d_BU_rankOf_57 : decode (mC m_BU_rankOf) 57 = .ok (.iinc 4 1, 3) := by decide +kernel
theorem d_BU_rankOf_60 : decode (mC m_BU_rankOf) 60 = .ok (.goto (-45), 3) := by decide +kernel
theorem d_BU_rankOf_63 : decode (mC m_BU_rankOf) 63 = .ok (.iload_n 3, 1) := by decide +kernel
theorem d_BU_rankOf_64 : decode (mC m_BU_rankOf) 64 = .ok (.ireturn, 1) := by decide +kernel
theorem d_BU_copyFrom_0 : decode (mC m_BU_copyFrom) 0 = .ok (.aload_n 0, 1) := by decide +kernel
theorem d_BU_copyFrom_1 : decode (mC m_BU_copyFrom) 1 = .ok (.aload_n 1, 1) := by decide +kernel
theorem d_BU_copyFrom_2 : decode (mC m_BU_copyFrom) 2 = .ok (.getfield 22, 3) := by decide +kernel
theorem d_BU_copyFrom_5 : decode (mC m_BU_copyFrom) 5 = .ok (.putfield 22, 3) := by decide +kernel
theorem d_BU_copyFrom_8 : decode (mC m_BU_copyFrom) 8 = .ok (.aload_n 0, 1) := by decide +kernel
theorem d_BU_copyFrom_9 : decode (mC m_BU_copyFrom) 9 = .ok (.aload_n 1, 1) := by decide +kernel
theorem d_BU_copyFrom_10 : decode (mC m_BU_copyFrom) 10 = .ok (.getfield 26, 3) := by decide +kernel
theorem d_BU_copyFrom_13 : decode (mC m_BU_copyFrom) 13 = .ok (.putfield 26, 3) := by decide +kernel
theorem d_BU_copyFrom_16 : decode (mC m_BU_copyFrom) 16 = .ok (.aload_n 0, 1) := by decide +kernel
theorem d_BU_copyFrom_17 : decode (mC m_BU_copyFrom) 17 = .ok (.aload_n 1, 1) := by decide +kernel
theorem d_BU_copyFrom_18 : decode (mC m_BU_copyFrom) 18 = .ok (.getfield 29, 3) := by decide +kernel
theorem d_BU_copyFrom_21 : decode (mC m_BU_copyFrom) 21 = .ok (.putfield 29, 3) := by decide +kernel
theorem d_BU_copyFrom_24 : decode (mC m_BU_copyFrom) 24 = .ok (.aload_n 0, 1) := by decide +kernel
theorem d_BU_copyFrom_25 : decode (mC m_BU_copyFrom) 25 = .ok (.aload_n 1, 1) := by decide +kernel
theorem d_BU_copyFrom_26 : decode (mC m_BU_copyFrom) 26 = .ok (.getfield 32, 3) := by decide +kernel
theorem d_BU_copyFrom_29 : decode (mC m_BU_copyFrom) 29 = .ok (.putfield 32, 3) := by decide +kernel
theorem d_BU_copyFrom_32 : decode (mC m_BU_copyFrom) 32 = .ok (.aload_n 0, 1) := by decide +kernel
theorem d_BU_copyFrom_33 : decode (mC m_BU_copyFrom) 33 = .ok (.aload_n 1, 1) := by decide +kernel
theorem d_BU_copyFrom_34 : decode (mC m_BU_copyFrom) 34 = .ok (.getfield 35, 3) := by decide +kernel
theorem d_BU_copyFrom_37 : decode (mC m_BU_copyFrom) 37 = .ok (.putfield 35, 3) := by decide +kernel
theorem d_BU_copyFrom_40 : decode (mC m_BU_copyFrom) 40 = .ok (.aload_n 0, 1) := by decide +kernel
theorem d_BU_copyFrom_41 : decode (mC m_BU_copyFrom) 41 = .ok (.aload_n 1, 1) := by decide +kernel
theorem d_BU_copyFrom_42 : decode (mC m_BU_copyFrom) 42 = .ok (.getfield 38, 3) := by decide +kernel
theorem d_BU_copyFrom_45 : decode (mC m_BU_copyFrom) 45 = .ok (.putfield 38, 3) := by decide +kernel
theorem d_BU_copyFrom_48 : decode (mC m_BU_copyFrom) 48 = .ok (.aload_n 0, 1) := by decide +kernel
theorem d_BU_copyFrom_49 : decode (mC m_BU_copyFrom) 49 = .ok (.aload_n 1, 1) := by decide +kernel
theorem d_BU_copyFrom_50 : decode (mC m_BU_copyFrom) 50 = .ok (.getfield 41, 3) := by decide +kernel
theorem d_BU_copyFrom_53 : decode (mC m_BU_copyFrom) 53 = .ok (.putfield 41, 3) := by decide +kernel
theorem d_BU_copyFrom_56 : decode (mC m_BU_copyFrom) 56 = .ok (.aload_n 0, 1) := by decide +kernel
theorem d_BU_copyFrom_57 : decode (mC m_BU_copyFrom) 57 = .ok (.aload_n 1, 1) := by decide +kernel
theorem d_BU_copyFrom_58 : decode (mC m_BU_copyFrom) 58 = .ok (.getfield 44, 3) := by decide +kernel
theorem d_BU_copyFrom_61 : decode (mC m_BU_copyFrom) 61 = .ok (.putfield 44, 3) := by decide +kernel
theorem d_BU_copyFrom_64 : decode (mC m_BU_copyFrom) 64 = .ok (.aload_n 0, 1) := by decide +kernel
theorem d_BU_copyFrom_65 : decode (mC m_BU_copyFrom) 65 = .ok (.aload_n 1, 1) := by decide +kernel
theorem d_BU_copyFrom_66 : decode (mC m_BU_copyFrom) 66 = .ok (.getfield 47, 3) := by decide +kernel
theorem d_BU_copyFrom_69 : decode (mC m_BU_copyFrom) 69 = .ok (.putfield 47, 3) := by decide +kernel
theorem d_BU_copyFrom_72 : decode (mC m_BU_copyFrom) 72 = .ok (.aload_n 0, 1) := by decide +kernel
theorem d_BU_copyFrom_73 : decode (mC m_BU_copyFrom) 73 = .ok (.aload_n 1, 1) := by decide +kernel
theorem d_BU_copyFrom_74 : decode (mC m_BU_copyFrom) 74 = .ok (.getfield 50, 3) := by decide +kernel
theorem d_BU_copyFrom_77 : decode (mC m_BU_copyFrom) 77 = .ok (.putfield 50, 3) := by decide +kernel
theorem d_BU_copyFrom_80 : decode (mC m_BU_copyFrom) 80 = .ok (.aload_n 0, 1) := by decide +kernel
theorem d_BU_copyFrom_81 : decode (mC m_BU_copyFrom) 81 = .ok (.aload_n 1, 1) := by decide +kernel
theorem d_BU_copyFrom_82 : decode (mC m_BU_copyFrom) 82 = .ok (.getfield 53, 3) := by decide +kernel
theorem d_BU_copyFrom_85 : decode (mC m_BU_copyFrom) 85 = .ok (.putfield 53, 3) := by decide +kernel
theorem d_BU_copyFrom_88 : decode (mC m_BU_copyFrom) 88 = .ok (.aload_n 0, 1) := by decide +kernel
theorem d_BU_copyFrom_89 : decode (mC m_BU_copyFrom) 89 = .ok (.aload_n 1, 1) := by decide +kernel
theorem d_BU_copyFrom_90 : decode (mC m_BU_copyFrom) 90 = .ok (.getfield 56, 3) := by decide +kernel
theorem d_BU_copyFrom_93 : decode (mC m_BU_copyFrom) 93 = .ok (.putfield 56, 3) := by decide +kernel
theorem d_BU_copyFrom_96 : decode (mC m_BU_copyFrom) 96 = .ok (.iconst 0, 1) := by decide +kernel
theorem d_BU_copyFrom_97 : decode (mC m_BU_copyFrom) 97 = .ok (.istore_n 2, 1) := by decide +kernel
theorem d_BU_copyFrom_98 : decode (mC m_BU_copyFrom) 98 = .ok (.iload_n 2, 1) := by decide +kernel
theorem d_BU_copyFrom_99 : decode (mC m_BU_copyFrom) 99 = .ok (.aload_n 0, 1) := by decide +kernel
theorem d_BU_copyFrom_100 : decode (mC m_BU_copyFrom) 100 = .ok (.getfield 53, 3) := by decide +kernel
theorem d_BU_copyFrom_103 : decode (mC m_BU_copyFrom) 103 = .ok (.if_icmp .ge 21, 3) := by decide +kernel
theorem d_BU_copyFrom_106 : decode (mC m_BU_copyFrom) 106 = .ok (.aload_n 0, 1) := by decide +kernel
theorem d_BU_copyFrom_107 : decode (mC m_BU_copyFrom) 107 = .ok (.getfield 9, 3) := by decide +kernel
theorem d_BU_copyFrom_110 : decode (mC m_BU_copyFrom) 110 = .ok (.iload_n 2, 1) := by decide +kernel
theorem d_BU_copyFrom_111 : decode (mC m_BU_copyFrom) 111 = .ok (.aload_n 1, 1) := by decide +kernel
theorem d_BU_copyFrom_112 : decode (mC m_BU_copyFrom) 112 = .ok (.getfield 9, 3) := by decide +kernel
theorem d_BU_copyFrom_115 : decode (mC m_BU_copyFrom) 115 = .ok (.iload_n 2, 1) := by decide +kernel
theorem d_BU_copyFrom_116 : decode (mC m_BU_copyFrom) 116 = .ok (.iaload, 1) := by decide +kernel
theorem d_BU_copyFrom_117 : decode (mC m_BU_copyFrom) 117 = .ok (.iastore, 1) := by decide +kernel
theorem d_BU_copyFrom_118 : decode (mC m_BU_copyFrom) 118 = .ok (.iinc 2 1, 3) := by decide +kernel
theorem d_BU_copyFrom_121 : decode (mC m_BU_copyFrom) 121 = .ok (.goto (-23), 3) := by decide +kernel
theorem d_BU_copyFrom_124 : decode (mC m_BU_copyFrom) 124 = .ok (.iconst 0, 1) := by decide +kernel
theorem d_BU_copyFrom_125 : decode (mC m_BU_copyFrom) 125 = .ok (.istore_n 2, 1) := by decide +kernel
theorem d_BU_copyFrom_126 : decode (mC m_BU_copyFrom) 126 = .ok (.iload_n 2, 1) := by decide +kernel
theorem d_BU_copyFrom_127 : decode (mC m_BU_copyFrom) 127 = .ok (.aload_n 0, 1) := by decide +kernel
theorem d_BU_copyFrom_128 : decode (mC m_BU_copyFrom) 128 = .ok (.getfield 56, 3) := by decide +kernel
theorem d_BU_copyFrom_131 : decode (mC m_BU_copyFrom) 131 = .ok (.if_icmp .ge 24, 3) := by decide +kernel
theorem d_BU_copyFrom_134 : decode (mC m_BU_copyFrom) 134 = .ok (.aload_n 0, 1) := by decide +kernel
theorem d_BU_copyFrom_135 : decode (mC m_BU_copyFrom) 135 = .ok (.getfield 17, 3) := by decide +kernel
theorem d_BU_copyFrom_138 : decode (mC m_BU_copyFrom) 138 = .ok (.iload_n 2, 1) := by decide +kernel
theorem d_BU_copyFrom_139 : decode (mC m_BU_copyFrom) 139 = .ok (.aaload, 1) := by decide +kernel
theorem d_BU_copyFrom_140 : decode (mC m_BU_copyFrom) 140 = .ok (.aload_n 1, 1) := by decide +kernel
theorem d_BU_copyFrom_141 : decode (mC m_BU_copyFrom) 141 = .ok (.getfield 17, 3) := by decide +kernel
theorem d_BU_copyFrom_144 : decode (mC m_BU_copyFrom) 144 = .ok (.iload_n 2, 1) := by decide +kernel
theorem d_BU_copyFrom_145 : decode (mC m_BU_copyFrom) 145 = .ok (.aaload, 1) := by decide +kernel
theorem d_BU_copyFrom_146 : decode (mC m_BU_copyFrom) 146 = .ok (.invokevirtual 63, 3) := by decide +kernel
theorem d_BU_copyFrom_149 : decode (mC m_BU_copyFrom) 149 = .ok (.iinc 2 1, 3) := by decide +kernel
theorem d_BU_copyFrom_152 : decode (mC m_BU_copyFrom) 152 = .ok (.goto (-26), 3) := by decide +kernel
theorem d_BU_copyFrom_155 : decode (mC m_BU_copyFrom) 155 = .ok (.return_, 1) := by decide +kernel
theorem d_BU_beginDay_0 : decode (mC m_BU_beginDay) 0 = .ok (.aload_n 0, 1) := by decide +kernel
theorem d_BU_beginDay_1 : decode (mC m_BU_beginDay) 1 = .ok (.dup, 1) := by decide +kernel
theorem d_BU_beginDay_2 : decode (mC m_BU_beginDay) 2 = .ok (.getfield 50, 3) := by decide +kernel
theorem d_BU_beginDay_5 : decode (mC m_BU_beginDay) 5 = .ok (.iconst 1, 1) := by decide +kernel
theorem d_BU_beginDay_6 : decode (mC m_BU_beginDay) 6 = .ok (.iadd, 1) := by decide +kernel
theorem d_BU_beginDay_7 : decode (mC m_BU_beginDay) 7 = .ok (.putfield 50, 3) := by decide +kernel
theorem d_BU_beginDay_10 : decode (mC m_BU_beginDay) 10 = .ok (.iconst 0, 1) := by decide +kernel
theorem d_BU_beginDay_11 : decode (mC m_BU_beginDay) 11 = .ok (.istore_n 1, 1) := by decide +kernel
theorem d_BU_beginDay_12 : decode (mC m_BU_beginDay) 12 = .ok (.iload_n 1, 1) := by decide +kernel
theorem d_BU_beginDay_13 : decode (mC m_BU_beginDay) 13 = .ok (.aload_n 0, 1) := by decide +kernel
theorem d_BU_beginDay_14 : decode (mC m_BU_beginDay) 14 = .ok (.getfield 56, 3) := by decide +kernel
theorem d_BU_beginDay_17 : decode (mC m_BU_beginDay) 17 = .ok (.if_icmp .ge 18, 3) := by decide +kernel
theorem d_BU_beginDay_20 : decode (mC m_BU_beginDay) 20 = .ok (.aload_n 0, 1) := by decide +kernel
theorem d_BU_beginDay_21 : decode (mC m_BU_beginDay) 21 = .ok (.getfield 17, 3) := by decide +kernel
theorem d_BU_beginDay_24 : decode (mC m_BU_beginDay) 24 = .ok (.iload_n 1, 1) := by decide +kernel
theorem d_BU_beginDay_25 : decode (mC m_BU_beginDay) 25 = .ok (.aaload, 1) := by decide +kernel
theorem d_BU_beginDay_26 : decode (mC m_BU_beginDay) 26 = .ok (.invokevirtual 117, 3) := by decide +kernel
theorem d_BU_beginDay_29 : decode (mC m_BU_beginDay) 29 = .ok (.iinc 1 1, 3) := by decide +kernel
theorem d_BU_beginDay_32 : decode (mC m_BU_beginDay) 32 = .ok (.goto (-20), 3) := by decide +kernel
theorem d_BU_beginDay_35 : decode (mC m_BU_beginDay) 35 = .ok (.return_, 1) := by decide +kernel
theorem d_BU_trade_0 : decode (mC m_BU_trade) 0 = .ok (.iconst 0, 1) := by decide +kernel
theorem d_BU_trade_1 : decode (mC m_BU_trade) 1 = .ok (.istore_n 1, 1) := by decide +kernel
theorem d_BU_trade_2 : decode (mC m_BU_trade) 2 = .ok (.iload_n 1, 1) := by decide +kernel
theorem d_BU_trade_3 : decode (mC m_BU_trade) 3 = .ok (.aload_n 0, 1) := by decide +kernel
theorem d_BU_trade_4 : decode (mC m_BU_trade) 4 = .ok (.getfield 56, 3) := by decide +kernel
theorem d_BU_trade_7 : decode (mC m_BU_trade) 7 = .ok (.if_icmp .ge 31, 3) := by decide +kernel
theorem d_BU_trade_10 : decode (mC m_BU_trade) 10 = .ok (.aload_n 0, 1) := by decide +kernel
theorem d_BU_trade_11 : decode (mC m_BU_trade) 11 = .ok (.getfield 17, 3) := by decide +kernel
theorem d_BU_trade_14 : decode (mC m_BU_trade) 14 = .ok (.iload_n 1, 1) := by decide +kernel
theorem d_BU_trade_15 : decode (mC m_BU_trade) 15 = .ok (.aaload, 1) := by decide +kernel
theorem d_BU_trade_16 : decode (mC m_BU_trade) 16 = .ok (.getfield 97, 3) := by decide +kernel
theorem d_BU_trade_19 : decode (mC m_BU_trade) 19 = .ok (.ifCond .eq 13, 3) := by decide +kernel
theorem d_BU_trade_22 : decode (mC m_BU_trade) 22 = .ok (.aload_n 0, 1) := by decide +kernel
theorem d_BU_trade_23 : decode (mC m_BU_trade) 23 = .ok (.aload_n 0, 1) := by decide +kernel
theorem d_BU_trade_24 : decode (mC m_BU_trade) 24 = .ok (.getfield 17, 3) := by decide +kernel
theorem d_BU_trade_27 : decode (mC m_BU_trade) 27 = .ok (.iload_n 1, 1) := by decide +kernel
theorem d_BU_trade_28 : decode (mC m_BU_trade) 28 = .ok (.aaload, 1) := by decide +kernel
theorem d_BU_trade_29 : decode (mC m_BU_trade) 29 = .ok (.invokevirtual 120, 3) := by decide +kernel
theorem d_BU_trade_32 : decode (mC m_BU_trade) 32 = .ok (.iinc 1 1, 3) := by decide +kernel
theorem d_BU_trade_35 : decode (mC m_BU_trade) 35 = .ok (.goto (-33), 3) := by decide +kernel
theorem d_BU_trade_38 : decode (mC m_BU_trade) 38 = .ok (.return_, 1) := by decide +kernel
theorem d_BU_makeSales_0 : decode (mC m_BU_makeSales) 0 = .ok (.aload_n 1, 1) := by decide +kernel
theorem d_BU_makeSales_1 : decode (mC m_BU_makeSales) 1 = .ok (.aload_n 0, 1) := by decide +kernel
theorem d_BU_makeSales_2 : decode (mC m_BU_makeSales) 2 = .ok (.getfield 50, 3) := by decide +kernel
theorem d_BU_makeSales_5 : decode (mC m_BU_makeSales) 5 = .ok (.invokevirtual 123, 3) := by decide +kernel
theorem d_BU_makeSales_8 : decode (mC m_BU_makeSales) 8 = .ok (.istore_n 2, 1) := by decide +kernel
theorem d_BU_makeSales_9 : decode (mC m_BU_makeSales) 9 = .ok (.aload_n 0, 1) := by decide +kernel
theorem d_BU_makeSales_10 : decode (mC m_BU_makeSales) 10 = .ok (.aload_n 1, 1) := by decide +kernel
theorem d_BU_makeSales_11 : decode (mC m_BU_makeSales) 11 = .ok (.iload_n 2, 1) := by decide +kernel
theorem d_BU_makeSales_12 : decode (mC m_BU_makeSales) 12 = .ok (.invokevirtual 126, 3) := by decide +kernel
theorem d_BU_makeSales_15 : decode (mC m_BU_makeSales) 15 = .ok (.istore_n 3, 1) := by decide +kernel
theorem d_BU_makeSales_16 : decode (mC m_BU_makeSales) 16 = .ok (.aload_n 1, 1) := by decide +kernel
theorem d_BU_makeSales_17 : decode (mC m_BU_makeSales) 17 = .ok (.dup, 1) := by decide +kernel
theorem d_BU_makeSales_18 : decode (mC m_BU_makeSales) 18 = .ok (.getfield 129, 3) := by decide +kernel
theorem d_BU_makeSales_21 : decode (mC m_BU_makeSales) 21 = .ok (.iload_n 3, 1) := by decide +kernel
theorem d_BU_makeSales_22 : decode (mC m_BU_makeSales) 22 = .ok (.iadd, 1) := by decide +kernel
theorem d_BU_makeSales_23 : decode (mC m_BU_makeSales) 23 = .ok (.putfield 129, 3) := by decide +kernel
theorem d_BU_makeSales_26 : decode (mC m_BU_makeSales) 26 = .ok (.aload_n 1, 1) := by decide +kernel
theorem d_BU_makeSales_27 : decode (mC m_BU_makeSales) 27 = .ok (.dup, 1) := by decide +kernel
theorem d_BU_makeSales_28 : decode (mC m_BU_makeSales) 28 = .ok (.getfield 132, 3) := by decide +kernel
theorem d_BU_makeSales_31 : decode (mC m_BU_makeSales) 31 = .ok (.iload_n 3, 1) := by decide +kernel
theorem d_BU_makeSales_32 : decode (mC m_BU_makeSales) 32 = .ok (.iadd, 1) := by decide +kernel
theorem d_BU_makeSales_33 : decode (mC m_BU_makeSales) 33 = .ok (.putfield 132, 3) := by decide +kernel
theorem d_BU_makeSales_36 : decode (mC m_BU_makeSales) 36 = .ok (.aload_n 1, 1) := by decide +kernel
theorem d_BU_makeSales_37 : decode (mC m_BU_makeSales) 37 = .ok (.getfield 94, 3) := by decide +kernel
theorem d_BU_makeSales_40 : decode (mC m_BU_makeSales) 40 = .ok (.ifCond .le 24, 3) := by decide +kernel
theorem d_BU_makeSales_43 : decode (mC m_BU_makeSales) 43 = .ok (.iload_n 2, 1) := by decide +kernel
theorem d_BU_makeSales_44 : decode (mC m_BU_makeSales) 44 = .ok (.aload_n 1, 1) := by decide +kernel
theorem d_BU_makeSales_45 : decode (mC m_BU_makeSales) 45 = .ok (.getfield 135, 3) := by decide +kernel
theorem d_BU_makeSales_48 : decode (mC m_BU_makeSales) 48 = .ok (.bipush 20, 2) := by decide +kernel
theorem d_BU_makeSales_50 : decode (mC m_BU_makeSales) 50 = .ok (.idiv, 1) := by decide +kernel
theorem d_BU_makeSales_51 : decode (mC m_BU_makeSales) 51 = .ok (.if_icmp .le 13, 3) := by decide +kernel
theorem d_BU_makeSales_54 : decode (mC m_BU_makeSales) 54 = .ok (.aload_n 1, 1) := by decide +kernel
theorem d_BU_makeSales_55 : decode (mC m_BU_makeSales) 55 = .ok (.dup, 1) := by decide +kernel
theorem d_BU_makeSales_56 : decode (mC m_BU_makeSales) 56 = .ok (.getfield 101, 3) := by decide +kernel
theorem d_BU_makeSales_59 : decode (mC m_BU_makeSales) 59 = .ok (.iconst 1, 1) := by decide +kernel
theorem d_BU_makeSales_60 : decode (mC m_BU_makeSales) 60 = .ok (.iadd, 1) := by decide +kernel
theorem d_BU_makeSales_61 : decode (mC m_BU_makeSales) 61 = .ok (.putfield 101, 3) := by decide +kernel
theorem d_BU_makeSales_64 : decode (mC m_BU_makeSales) 64 = .ok (.return_, 1) := by decide +kernel
theorem d_BU_gainFor_0 : decode (mC m_BU_gainFor) 0 = .ok (.aload_n 1, 1) := by decide +kernel
theorem d_BU_gainFor_1 : decode (mC m_BU_gainFor) 1 = .ok (.getfield 94, 3) := by decide +kernel
theorem d_BU_gainFor_4 : decode (mC m_BU_gainFor) 4 = .ok (.iload_n 2, 1) := by decide +kernel
theorem d_BU_gainFor_5 : decode (mC m_BU_gainFor) 5 = .ok (.imul, 1) := by decide +kernel
theorem d_BU_gainFor_6 : decode (mC m_BU_gainFor) 6 = .ok (.aload_n 0, 1) := by decide +kernel
theorem d_BU_gainFor_7 : decode (mC m_BU_gainFor) 7 = .ok (.getfield 35, 3) := by decide +kernel
theorem d_BU_gainFor_10 : decode (mC m_BU_gainFor) 10 = .ok (.imul, 1) := by decide +kernel
theorem d_BU_gainFor_11 : decode (mC m_BU_gainFor) 11 = .ok (.sipush 1000, 3) := by decide +kernel
theorem d_BU_gainFor_14 : decode (mC m_BU_gainFor) 14 = .ok (.idiv, 1) := by decide +kernel
theorem d_BU_gainFor_15 : decode (mC m_BU_gainFor) 15 = .ok (.ireturn, 1) := by decide +kernel
theorem d_BU_chooseShop_0 : decode (mC m_BU_chooseShop) 0 = .ok (.aload_n 0, 1) := by decide +kernel
theorem d_BU_chooseShop_1 : decode (mC m_BU_chooseShop) 1 = .ok (.invokevirtual 141, 3) := by decide +kernel
theorem d_BU_chooseShop_4 : decode (mC m_BU_chooseShop) 4 = .ok (.istore_n 1, 1) := by decide +kernel
theorem d_BU_chooseShop_5 : decode (mC m_BU_chooseShop) 5 = .ok (.iload_n 1, 1) := by decide +kernel
theorem d_BU_chooseShop_6 : decode (mC m_BU_chooseShop) 6 = .ok (.iconst (-1), 1) := by decide +kernel
theorem d_BU_chooseShop_7 : decode (mC m_BU_chooseShop) 7 = .ok (.if_icmp .ne 20, 3) := by decide +kernel
theorem d_BU_chooseShop_10 : decode (mC m_BU_chooseShop) 10 = .ok (.aload_n 0, 1) := by decide +kernel
theorem d_BU_chooseShop_11 : decode (mC m_BU_chooseShop) 11 = .ok (.iconst 0, 1) := by decide +kernel
theorem d_BU_chooseShop_12 : decode (mC m_BU_chooseShop) 12 = .ok (.invokevirtual 144, 3) := by decide +kernel
theorem d_BU_chooseShop_15 : decode (mC m_BU_chooseShop) 15 = .ok (.iconst (-1), 1) := by decide +kernel
theorem d_BU_chooseShop_16 : decode (mC m_BU_chooseShop) 16 = .ok (.if_icmp .eq 11, 3) := by decide +kernel
theorem d_BU_chooseShop_19 : decode (mC m_BU_chooseShop) 19 = .ok (.aload_n 0, 1) := by decide +kernel
theorem d_BU_chooseShop_20 : decode (mC m_BU_chooseShop) 20 = .ok (.getfield 56, 3) := by decide +kernel
theorem d_BU_chooseShop_23 : decode (mC m_BU_chooseShop) 23 = .ok (.iconst 1, 1) := by decide +kernel
theorem d_BU_chooseShop_24 : decode (mC m_BU_chooseShop) 24 = .ok (.if_icmp .ge 5, 3) := by decide +kernel
theorem d_BU_chooseShop_27 : decode (mC m_BU_chooseShop) 27 = .ok (.iload_n 1, 1) := by decide +kernel
theorem d_BU_chooseShop_28 : decode (mC m_BU_chooseShop) 28 = .ok (.ireturn, 1) := by decide +kernel
theorem d_BU_chooseShop_29 : decode (mC m_BU_chooseShop) 29 = .ok (.aload_n 0, 1) := by decide +kernel
theorem d_BU_chooseShop_30 : decode (mC m_BU_chooseShop) 30 = .ok (.bipush 75, 2) := by decide +kernel
theorem d_BU_chooseShop_32 : decode (mC m_BU_chooseShop) 32 = .ok (.aload_n 0, 1) := by decide +kernel
theorem d_BU_chooseShop_33 : decode (mC m_BU_chooseShop) 33 = .ok (.getfield 41, 3) := by decide +kernel
theorem d_BU_chooseShop_36 : decode (mC m_BU_chooseShop) 36 = .ok (.imul, 1) := by decide +kernel
theorem d_BU_chooseShop_37 : decode (mC m_BU_chooseShop) 37 = .ok (.bipush 74, 2) := by decide +kernel
theorem d_BU_chooseShop_39 : decode (mC m_BU_chooseShop) 39 = .ok (.iadd, 1) := by decide +kernel
theorem d_BU_chooseShop_40 : decode (mC m_BU_chooseShop) 40 = .ok (.ldc 147, 2) := by decide +kernel
theorem d_BU_chooseShop_42 : decode (mC m_BU_chooseShop) 42 = .ok (.irem, 1) := by decide +kernel
theorem d_BU_chooseShop_43 : decode (mC m_BU_chooseShop) 43 = .ok (.putfield 41, 3) := by decide +kernel
theorem d_BU_chooseShop_46 : decode (mC m_BU_chooseShop) 46 = .ok (.aload_n 0, 1) := by decide +kernel
theorem d_BU_chooseShop_47 : decode (mC m_BU_chooseShop) 47 = .ok (.aload_n 0, 1) := by decide +kernel
theorem d_BU_chooseShop_48 : decode (mC m_BU_chooseShop) 48 = .ok (.getfield 41, 3) := by decide +kernel
theorem d_BU_chooseShop_51 : decode (mC m_BU_chooseShop) 51 = .ok (.aload_n 0, 1) := by decide +kernel
theorem d_BU_chooseShop_52 : decode (mC m_BU_chooseShop) 52 = .ok (.getfield 56, 3) := by decide +kernel
theorem d_BU_chooseShop_55 : decode (mC m_BU_chooseShop) 55 = .ok (.irem, 1) := by decide +kernel
theorem d_BU_chooseShop_56 : decode (mC m_BU_chooseShop) 56 = .ok (.invokevirtual 144, 3) := by decide +kernel
theorem d_BU_chooseShop_59 : decode (mC m_BU_chooseShop) 59 = .ok (.ireturn, 1) := by decide +kernel
theorem d_BU_mostAccused_0 : decode (mC m_BU_mostAccused) 0 = .ok (.iconst (-1), 1) := by decide +kernel
theorem d_BU_mostAccused_1 : decode (mC m_BU_mostAccused) 1 = .ok (.istore_n 1, 1) := by decide +kernel
theorem d_BU_mostAccused_2 : decode (mC m_BU_mostAccused) 2 = .ok (.iconst 0, 1) := by decide +kernel
theorem d_BU_mostAccused_3 : decode (mC m_BU_mostAccused) 3 = .ok (.istore_n 2, 1) := by decide +kernel
theorem d_BU_mostAccused_4 : decode (mC m_BU_mostAccused) 4 = .ok (.iconst 0, 1) := by decide +kernel
theorem d_BU_mostAccused_5 : decode (mC m_BU_mostAccused) 5 = .ok (.istore_n 3, 1) := by decide +kernel
theorem d_BU_mostAccused_6 : decode (mC m_BU_mostAccused) 6 = .ok (.iload_n 3, 1) := by decide +kernel
theorem d_BU_mostAccused_7 : decode (mC m_BU_mostAccused) 7 = .ok (.aload_n 0, 1) := by decide +kernel
theorem d_BU_mostAccused_8 : decode (mC m_BU_mostAccused) 8 = .ok (.getfield 56, 3) := by decide +kernel
theorem d_BU_mostAccused_11 : decode (mC m_BU_mostAccused) 11 = .ok (.if_icmp .ge 47, 3) := by decide +kernel
theorem d_BU_mostAccused_14 : decode (mC m_BU_mostAccused) 14 = .ok (.aload_n 0, 1) := by decide +kernel
theorem d_BU_mostAccused_15 : decode (mC m_BU_mostAccused) 15 = .ok (.aload_n 0, 1) := by decide +kernel
theorem d_BU_mostAccused_16 : decode (mC m_BU_mostAccused) 16 = .ok (.getfield 17, 3) := by decide +kernel
theorem d_BU_mostAccused_19 : decode (mC m_BU_mostAccused) 19 = .ok (.iload_n 3, 1) := by decide +kernel
theorem d_BU_mostAccused_20 : decode (mC m_BU_mostAccused) 20 = .ok (.aaload, 1) := by decide +kernel
theorem d_BU_mostAccused_21 : decode (mC m_BU_mostAccused) 21 = .ok (.invokevirtual 148, 3) := by decide +kernel
theorem d_BU_mostAccused_24 : decode (mC m_BU_mostAccused) 24 = .ok (.ifCond .eq 28, 3) := by decide +kernel
theorem d_BU_mostAccused_27 : decode (mC m_BU_mostAccused) 27 = .ok (.aload_n 0, 1) := by decide +kernel
theorem d_BU_mostAccused_28 : decode (mC m_BU_mostAccused) 28 = .ok (.getfield 17, 3) := by decide +kernel
theorem d_BU_mostAccused_31 : decode (mC m_BU_mostAccused) 31 = .ok (.iload_n 3, 1) := by decide +kernel
theorem d_BU_mostAccused_32 : decode (mC m_BU_mostAccused) 32 = .ok (.aaload, 1) := by decide +kernel
theorem d_BU_mostAccused_33 : decode (mC m_BU_mostAccused) 33 = .ok (.getfield 101, 3) := by decide +kernel
theorem d_BU_mostAccused_36 : decode (mC m_BU_mostAccused) 36 = .ok (.iload_n 2, 1) := by decide +kernel
theorem d_BU_mostAccused_37 : decode (mC m_BU_mostAccused) 37 = .ok (.if_icmp .le 15, 3) := by decide +kernel
theorem d_BU_mostAccused_40 : decode (mC m_BU_mostAccused) 40 = .ok (.iload_n 3, 1) := by decide +kernel
theorem d_BU_mostAccused_41 : decode (mC m_BU_mostAccused) 41 = .ok (.istore_n 1, 1) := by decide +kernel
theorem d_BU_mostAccused_42 : decode (mC m_BU_mostAccused) 42 = .ok (.aload_n 0, 1) := by decide +kernel
theorem d_BU_mostAccused_43 : decode (mC m_BU_mostAccused) 43 = .ok (.getfield 17, 3) := by decide +kernel
theorem d_BU_mostAccused_46 : decode (mC m_BU_mostAccused) 46 = .ok (.iload_n 3, 1) := by decide +kernel
theorem d_BU_mostAccused_47 : decode (mC m_BU_mostAccused) 47 = .ok (.aaload, 1) := by decide +kernel
theorem d_BU_mostAccused_48 : decode (mC m_BU_mostAccused) 48 = .ok (.getfield 101, 3) := by decide +kernel
theorem d_BU_mostAccused_51 : decode (mC m_BU_mostAccused) 51 = .ok (.istore_n 2, 1) := by decide +kernel
theorem d_BU_mostAccused_52 : decode (mC m_BU_mostAccused) 52 = .ok (.iinc 3 1, 3) := by decide +kernel
theorem d_BU_mostAccused_55 : decode (mC m_BU_mostAccused) 55 = .ok (.goto (-49), 3) := by decide +kernel
theorem d_BU_mostAccused_58 : decode (mC m_BU_mostAccused) 58 = .ok (.iload_n 1, 1) := by decide +kernel
theorem d_BU_mostAccused_59 : decode (mC m_BU_mostAccused) 59 = .ok (.ireturn, 1) := by decide +kernel
theorem d_BU_canBeVisited_0 : decode (mC m_BU_canBeVisited) 0 = .ok (.aload_n 1, 1) := by decide +kernel
theorem d_BU_canBeVisited_1 : decode (mC m_BU_canBeVisited) 1 = .ok (.getfield 97, 3) := by decide +kernel
theorem d_BU_canBeVisited_4 : decode (mC m_BU_canBeVisited) 4 = .ok (.ifCond .eq 18, 3) := by decide +kernel
theorem d_BU_canBeVisited_7 : decode (mC m_BU_canBeVisited) 7 = .ok (.aload_n 1, 1) := by decide +kernel
theorem d_BU_canBeVisited_8 : decode (mC m_BU_canBeVisited) 8 = .ok (.getfield 138, 3) := by decide +kernel
theorem d_BU_canBeVisited_11 : decode (mC m_BU_canBeVisited) 11 = .ok (.aload_n 0, 1) := by decide +kernel
theorem d_BU_canBeVisited_12 : decode (mC m_BU_canBeVisited) 12 = .ok (.getfield 50, 3) := by decide +kernel
theorem d_BU_canBeVisited_15 : decode (mC m_BU_canBeVisited) 15 = .ok (.if_icmp .eq 7, 3) := by decide +kernel
theorem d_BU_canBeVisited_18 : decode (mC m_BU_canBeVisited) 18 = .ok (.iconst 1, 1) := by decide +kernel
theorem d_BU_canBeVisited_19 : decode (mC m_BU_canBeVisited) 19 = .ok (.goto 4, 3) := by decide +kernel
theorem d_BU_canBeVisited_22 : decode (mC m_BU_canBeVisited) 22 = .ok (.iconst 0, 1) := by decide +kernel
theorem d_BU_canBeVisited_23 : decode (mC m_BU_canBeVisited) 23 = .ok (.ireturn, 1) := by decide +kernel
theorem d_BU_nextToVisitFrom_0 : decode (mC m_BU_nextToVisitFrom) 0 = .ok (.iload_n 1, 1) := by decide +kernel
theorem d_BU_nextToVisitFrom_1 : decode (mC m_BU_nextToVisitFrom) 1 = .ok (.istore_n 2, 1) := by decide +kernel
theorem d_BU_nextToVisitFrom_2 : decode (mC m_BU_nextToVisitFrom) 2 = .ok (.iconst 0, 1) := by decide +kernel
theorem d_BU_nextToVisitFrom_3 : decode (mC m_BU_nextToVisitFrom) 3 = .ok (.istore_n 3, 1) := by decide +kernel
theorem d_BU_nextToVisitFrom_4 : decode (mC m_BU_nextToVisitFrom) 4 = .ok (.iload_n 3, 1) := by decide +kernel
theorem d_BU_nextToVisitFrom_5 : decode (mC m_BU_nextToVisitFrom) 5 = .ok (.aload_n 0, 1) := by decide +kernel
theorem d_BU_nextToVisitFrom_6 : decode (mC m_BU_nextToVisitFrom) 6 = .ok (.getfield 56, 3) := by decide +kernel
theorem d_BU_nextToVisitFrom_9 : decode (mC m_BU_nextToVisitFrom) 9 = .ok (.if_icmp .ge 42, 3) := by decide +kernel
theorem d_BU_nextToVisitFrom_12 : decode (mC m_BU_nextToVisitFrom) 12 = .ok (.aload_n 0, 1) := by decide +kernel
theorem d_BU_nextToVisitFrom_13 : decode (mC m_BU_nextToVisitFrom) 13 = .ok (.aload_n 0, 1) := by decide +kernel
theorem d_BU_nextToVisitFrom_14 : decode (mC m_BU_nextToVisitFrom) 14 = .ok (.getfield 17, 3) := by decide +kernel
theorem d_BU_nextToVisitFrom_17 : decode (mC m_BU_nextToVisitFrom) 17 = .ok (.iload_n 2, 1) := by decide +kernel
theorem d_BU_nextToVisitFrom_18 : decode (mC m_BU_nextToVisitFrom) 18 = .ok (.aaload, 1) := by decide +kernel
theorem d_BU_nextToVisitFrom_19 : decode (mC m_BU_nextToVisitFrom) 19 = .ok (.invokevirtual 148, 3) := by decide +kernel
theorem d_BU_nextToVisitFrom_22 : decode (mC m_BU_nextToVisitFrom) 22 = .ok (.ifCond .eq 5, 3) := by decide +kernel
theorem d_BU_nextToVisitFrom_25 : decode (mC m_BU_nextToVisitFrom) 25 = .ok (.iload_n 2, 1) := by decide +kernel
theorem d_BU_nextToVisitFrom_26 : decode (mC m_BU_nextToVisitFrom) 26 = .ok (.ireturn, 1) := by decide +kernel
theorem d_BU_nextToVisitFrom_27 : decode (mC m_BU_nextToVisitFrom) 27 = .ok (.iload_n 2, 1) := by decide +kernel
theorem d_BU_nextToVisitFrom_28 : decode (mC m_BU_nextToVisitFrom) 28 = .ok (.iconst 1, 1) := by decide +kernel
theorem d_BU_nextToVisitFrom_29 : decode (mC m_BU_nextToVisitFrom) 29 = .ok (.iadd, 1) := by decide +kernel
theorem d_BU_nextToVisitFrom_30 : decode (mC m_BU_nextToVisitFrom) 30 = .ok (.aload_n 0, 1) := by decide +kernel
theorem d_BU_nextToVisitFrom_31 : decode (mC m_BU_nextToVisitFrom) 31 = .ok (.getfield 56, 3) := by decide +kernel
theorem d_BU_nextToVisitFrom_34 : decode (mC m_BU_nextToVisitFrom) 34 = .ok (.if_icmp .ge 9, 3) := by decide +kernel
theorem d_BU_nextToVisitFrom_37 : decode (mC m_BU_nextToVisitFrom) 37 = .ok (.iload_n 2, 1) := by decide +kernel
theorem d_BU_nextToVisitFrom_38 : decode (mC m_BU_nextToVisitFrom) 38 = .ok (.iconst 1, 1) := by decide +kernel
theorem d_BU_nextToVisitFrom_39 : decode (mC m_BU_nextToVisitFrom) 39 = .ok (.iadd, 1) := by decide +kernel
theorem d_BU_nextToVisitFrom_40 : decode (mC m_BU_nextToVisitFrom) 40 = .ok (.goto 4, 3) := by decide +kernel
theorem d_BU_nextToVisitFrom_43 : decode (mC m_BU_nextToVisitFrom) 43 = .ok (.iconst 0, 1) := by decide +kernel
theorem d_BU_nextToVisitFrom_44 : decode (mC m_BU_nextToVisitFrom) 44 = .ok (.istore_n 2, 1) := by decide +kernel
theorem d_BU_nextToVisitFrom_45 : decode (mC m_BU_nextToVisitFrom) 45 = .ok (.iinc 3 1, 3) := by decide +kernel
theorem d_BU_nextToVisitFrom_48 : decode (mC m_BU_nextToVisitFrom) 48 = .ok (.goto (-44), 3) := by decide +kernel
theorem d_BU_nextToVisitFrom_51 : decode (mC m_BU_nextToVisitFrom) 51 = .ok (.iconst (-1), 1) := by decide +kernel
theorem d_BU_nextToVisitFrom_52 : decode (mC m_BU_nextToVisitFrom) 52 = .ok (.ireturn, 1) := by decide +kernel
theorem d_BU_totalFor_0 : decode (mC m_BU_totalFor) 0 = .ok (.iconst 0, 1) := by decide +kernel
theorem d_BU_totalFor_1 : decode (mC m_BU_totalFor) 1 = .ok (.istore_n 2, 1) := by decide +kernel
theorem d_BU_totalFor_2 : decode (mC m_BU_totalFor) 2 = .ok (.iconst 0, 1) := by decide +kernel
theorem d_BU_totalFor_3 : decode (mC m_BU_totalFor) 3 = .ok (.istore_n 3, 1) := by decide +kernel
theorem d_BU_totalFor_4 : decode (mC m_BU_totalFor) 4 = .ok (.iload_n 3, 1) := by decide +kernel
theorem d_BU_totalFor_5 : decode (mC m_BU_totalFor) 5 = .ok (.aload_n 0, 1) := by decide +kernel
theorem d_BU_totalFor_6 : decode (mC m_BU_totalFor) 6 = .ok (.getfield 53, 3) := by decide +kernel
theorem d_BU_totalFor_9 : decode (mC m_BU_totalFor) 9 = .ok (.if_icmp .ge 23, 3) := by decide +kernel
theorem d_BU_totalFor_12 : decode (mC m_BU_totalFor) 12 = .ok (.iload_n 2, 1) := by decide +kernel
theorem d_BU_totalFor_13 : decode (mC m_BU_totalFor) 13 = .ok (.aload_n 0, 1) := by decide +kernel
theorem d_BU_totalFor_14 : decode (mC m_BU_totalFor) 14 = .ok (.aload_n 1, 1) := by decide +kernel
theorem d_BU_totalFor_15 : decode (mC m_BU_totalFor) 15 = .ok (.aload_n 0, 1) := by decide +kernel
theorem d_BU_totalFor_16 : decode (mC m_BU_totalFor) 16 = .ok (.getfield 9, 3) := by decide +kernel
theorem d_BU_totalFor_19 : decode (mC m_BU_totalFor) 19 = .ok (.iload_n 3, 1) := by decide +kernel
theorem d_BU_totalFor_20 : decode (mC m_BU_totalFor) 20 = .ok (.iaload, 1) := by decide +kernel
theorem d_BU_totalFor_21 : decode (mC m_BU_totalFor) 21 = .ok (.invokevirtual 83, 3) := by decide +kernel
theorem d_BU_totalFor_24 : decode (mC m_BU_totalFor) 24 = .ok (.iadd, 1) := by decide +kernel
theorem d_BU_totalFor_25 : decode (mC m_BU_totalFor) 25 = .ok (.istore_n 2, 1) := by decide +kernel
theorem d_BU_totalFor_26 : decode (mC m_BU_totalFor) 26 = .ok (.iinc 3 1, 3) := by decide +kernel
theorem d_BU_totalFor_29 : decode (mC m_BU_totalFor) 29 = .ok (.goto (-25), 3) := by decide +kernel
theorem d_BU_totalFor_32 : decode (mC m_BU_totalFor) 32 = .ok (.iload_n 2, 1) := by decide +kernel
theorem d_BU_totalFor_33 : decode (mC m_BU_totalFor) 33 = .ok (.ireturn, 1) := by decide +kernel
theorem d_BU_excessFor_0 : decode (mC m_BU_excessFor) 0 = .ok (.iconst 0, 1) := by decide +kernel
theorem d_BU_excessFor_1 : decode (mC m_BU_excessFor) 1 = .ok (.aload_n 1, 1) := by decide +kernel
theorem d_BU_excessFor_2 : decode (mC m_BU_excessFor) 2 = .ok (.iload_n 2, 1) := by decide +kernel
theorem d_BU_excessFor_3 : decode (mC m_BU_excessFor) 3 = .ok (.invokevirtual 67, 3) := by decide +kernel
theorem d_BU_excessFor_6 : decode (mC m_BU_excessFor) 6 = .ok (.invokestatic 71, 3) := by decide +kernel
theorem d_BU_excessFor_9 : decode (mC m_BU_excessFor) 9 = .ok (.aload_n 0, 1) := by decide +kernel
theorem d_BU_excessFor_10 : decode (mC m_BU_excessFor) 10 = .ok (.iload_n 2, 1) := by decide +kernel
theorem d_BU_excessFor_11 : decode (mC m_BU_excessFor) 11 = .ok (.invokevirtual 76, 3) := by decide +kernel
theorem d_BU_excessFor_14 : decode (mC m_BU_excessFor) 14 = .ok (.isub, 1) := by decide +kernel
theorem d_BU_excessFor_15 : decode (mC m_BU_excessFor) 15 = .ok (.invokestatic 79, 3) := by decide +kernel
theorem d_BU_excessFor_18 : decode (mC m_BU_excessFor) 18 = .ok (.ireturn, 1) := by decide +kernel
theorem mm_BU_excessFor_71 : MM m_BU_excessFor 71 Lib.Math.abs.name Lib.Math.abs.code 1 := ⟨tg_4 236 rfl rfl, tg_4 183 rfl rfl, tg_1 16 rfl rfl, tg_4 184 rfl rfl, by decide, by decide⟩
theorem mm_BU_excessFor_79 : MM m_BU_excessFor 79 Lib.Math.max.name Lib.Math.max.code 2 := ⟨tg_5 1 rfl rfl, tg_3 51 rfl rfl, tg_1 16 rfl rfl, tg_3 52 rfl rfl, by decide, by decide⟩
theorem d_BU_boundFor_0 : decode (mC m_BU_boundFor) 0 = .ok (.aload_n 0, 1) := by decide +kernel
theorem d_BU_boundFor_1 : decode (mC m_BU_boundFor) 1 = .ok (.getfield 22, 3) := by decide +kernel
theorem d_BU_boundFor_4 : decode (mC m_BU_boundFor) 4 = .ok (.iload_n 1, 1) := by decide +kernel
theorem d_BU_boundFor_5 : decode (mC m_BU_boundFor) 5 = .ok (.aload_n 0, 1) := by decide +kernel
theorem d_BU_boundFor_6 : decode (mC m_BU_boundFor) 6 = .ok (.getfield 26, 3) := by decide +kernel
theorem d_BU_boundFor_9 : decode (mC m_BU_boundFor) 9 = .ok (.imul, 1) := by decide +kernel
theorem d_BU_boundFor_10 : decode (mC m_BU_boundFor) 10 = .ok (.sipush 1000, 3) := by decide +kernel
theorem d_BU_boundFor_13 : decode (mC m_BU_boundFor) 13 = .ok (.idiv, 1) := by decide +kernel
theorem d_BU_boundFor_14 : decode (mC m_BU_boundFor) 14 = .ok (.iadd, 1) := by decide +kernel
theorem d_BU_boundFor_15 : decode (mC m_BU_boundFor) 15 = .ok (.ireturn, 1) := by decide +kernel
theorem d_BU_hasTrueScale_0 : decode (mC m_BU_hasTrueScale) 0 = .ok (.aload_n 0, 1) := by decide +kernel
theorem d_BU_hasTrueScale_1 : decode (mC m_BU_hasTrueScale) 1 = .ok (.aload_n 1, 1) := by decide +kernel
theorem d_BU_hasTrueScale_2 : decode (mC m_BU_hasTrueScale) 2 = .ok (.invokevirtual 87, 3) := by decide +kernel
theorem d_BU_hasTrueScale_5 : decode (mC m_BU_hasTrueScale) 5 = .ok (.ifCond .ne 7, 3) := by decide +kernel
theorem d_BU_hasTrueScale_8 : decode (mC m_BU_hasTrueScale) 8 = .ok (.iconst 1, 1) := by decide +kernel
theorem d_BU_hasTrueScale_9 : decode (mC m_BU_hasTrueScale) 9 = .ok (.goto 4, 3) := by decide +kernel
theorem d_BU_hasTrueScale_12 : decode (mC m_BU_hasTrueScale) 12 = .ok (.iconst 0, 1) := by decide +kernel
theorem d_BU_hasTrueScale_13 : decode (mC m_BU_hasTrueScale) 13 = .ok (.ireturn, 1) := by decide +kernel
theorem d_BU_passMany_0 : decode (mC m_BU_passMany) 0 = .ok (.iconst 0, 1) := by decide +kernel
theorem d_BU_passMany_1 : decode (mC m_BU_passMany) 1 = .ok (.istore_n 2, 1) := by decide +kernel
theorem d_BU_passMany_2 : decode (mC m_BU_passMany) 2 = .ok (.iconst 0, 1) := by decide +kernel
theorem d_BU_passMany_3 : decode (mC m_BU_passMany) 3 = .ok (.istore_n 3, 1) := by decide +kernel
theorem d_BU_passMany_4 : decode (mC m_BU_passMany) 4 = .ok (.iload_n 3, 1) := by decide +kernel
theorem d_BU_passMany_5 : decode (mC m_BU_passMany) 5 = .ok (.iload_n 1, 1) := by decide +kernel
theorem d_BU_passMany_6 : decode (mC m_BU_passMany) 6 = .ok (.if_icmp .ge 62, 3) := by decide +kernel
theorem d_BU_passMany_9 : decode (mC m_BU_passMany) 9 = .ok (.aload_n 0, 1) := by decide +kernel
theorem d_BU_passMany_10 : decode (mC m_BU_passMany) 10 = .ok (.invokevirtual 104, 3) := by decide +kernel
theorem d_BU_passMany_13 : decode (mC m_BU_passMany) 13 = .ok (.aload_n 0, 1) := by decide +kernel
theorem d_BU_passMany_14 : decode (mC m_BU_passMany) 14 = .ok (.invokevirtual 107, 3) := by decide +kernel
theorem d_BU_passMany_17 : decode (mC m_BU_passMany) 17 = .ok (.iconst 0, 1) := by decide +kernel
theorem d_BU_passMany_18 : decode (mC m_BU_passMany) 18 = .ok (.istore 4, 2) := by decide +kernel
theorem d_BU_passMany_20 : decode (mC m_BU_passMany) 20 = .ok (.iload 4, 2) := by decide +kernel
theorem d_BU_passMany_22 : decode (mC m_BU_passMany) 22 = .ok (.aload_n 0, 1) := by decide +kernel
theorem d_BU_passMany_23 : decode (mC m_BU_passMany) 23 = .ok (.getfield 38, 3) := by decide +kernel
theorem d_BU_passMany_26 : decode (mC m_BU_passMany) 26 = .ok (.if_icmp .ge 36, 3) := by decide +kernel
theorem d_BU_passMany_29 : decode (mC m_BU_passMany) 29 = .ok (.aload_n 0, 1) := by decide +kernel
theorem d_BU_passMany_30 : decode (mC m_BU_passMany) 30 = .ok (.invokevirtual 110, 3) := by decide +kernel
theorem d_BU_passMany_33 : decode (mC m_BU_passMany) 33 = .ok (.istore 5, 2) := by decide +kernel
theorem d_BU_passMany_35 : decode (mC m_BU_passMany) 35 = .ok (.iload 5, 2) := by decide +kernel
theorem d_BU_passMany_37 : decode (mC m_BU_passMany) 37 = .ok (.iconst (-1), 1) := by decide +kernel
theorem d_BU_passMany_38 : decode (mC m_BU_passMany) 38 = .ok (.if_icmp .eq 18, 3) := by decide +kernel
theorem d_BU_passMany_41 : decode (mC m_BU_passMany) 41 = .ok (.aload_n 0, 1) := by decide +kernel
theorem d_BU_passMany_42 : decode (mC m_BU_passMany) 42 = .ok (.aload_n 0, 1) := by decide +kernel
theorem d_BU_passMany_43 : decode (mC m_BU_passMany) 43 = .ok (.getfield 17, 3) := by decide +kernel
theorem d_BU_passMany_46 : decode (mC m_BU_passMany) 46 = .ok (.iload 5, 2) := by decide +kernel
theorem d_BU_passMany_48 : decode (mC m_BU_passMany) 48 = .ok (.aaload, 1) := by decide +kernel
theorem d_BU_passMany_49 : decode (mC m_BU_passMany) 49 = .ok (.invokevirtual 114, 3) := by decide +kernel
theorem d_BU_passMany_52 : decode (mC m_BU_passMany) 52 = .ok (.pop, 1) := by decide +kernel
theorem d_BU_passMany_53 : decode (mC m_BU_passMany) 53 = .ok (.iinc 2 1, 3) := by decide +kernel
theorem d_BU_passMany_56 : decode (mC m_BU_passMany) 56 = .ok (.iinc 4 1, 3) := by decide +kernel
theorem d_BU_passMany_59 : decode (mC m_BU_passMany) 59 = .ok (.goto (-39), 3) := by decide +kernel
theorem d_BU_passMany_62 : decode (mC m_BU_passMany) 62 = .ok (.iinc 3 1, 3) := by decide +kernel
theorem d_BU_passMany_65 : decode (mC m_BU_passMany) 65 = .ok (.goto (-61), 3) := by decide +kernel
theorem d_BU_passMany_68 : decode (mC m_BU_passMany) 68 = .ok (.iload_n 2, 1) := by decide +kernel
theorem d_BU_passMany_69 : decode (mC m_BU_passMany) 69 = .ok (.ireturn, 1) := by decide +kernel
theorem d_BU_inspect_0 : decode (mC m_BU_inspect) 0 = .ok (.aload_n 0, 1) := by decide +kernel
theorem d_BU_inspect_1 : decode (mC m_BU_inspect) 1 = .ok (.aload_n 1, 1) := by decide +kernel
theorem d_BU_inspect_2 : decode (mC m_BU_inspect) 2 = .ok (.invokevirtual 87, 3) := by decide +kernel
theorem d_BU_inspect_5 : decode (mC m_BU_inspect) 5 = .ok (.istore_n 2, 1) := by decide +kernel
theorem d_BU_inspect_6 : decode (mC m_BU_inspect) 6 = .ok (.aload_n 1, 1) := by decide +kernel
theorem d_BU_inspect_7 : decode (mC m_BU_inspect) 7 = .ok (.aload_n 0, 1) := by decide +kernel
theorem d_BU_inspect_8 : decode (mC m_BU_inspect) 8 = .ok (.getfield 50, 3) := by decide +kernel
theorem d_BU_inspect_11 : decode (mC m_BU_inspect) 11 = .ok (.invokevirtual 152, 3) := by decide +kernel
theorem d_BU_inspect_14 : decode (mC m_BU_inspect) 14 = .ok (.istore_n 3, 1) := by decide +kernel
theorem d_BU_inspect_15 : decode (mC m_BU_inspect) 15 = .ok (.aload_n 0, 1) := by decide +kernel
theorem d_BU_inspect_16 : decode (mC m_BU_inspect) 16 = .ok (.iload_n 2, 1) := by decide +kernel
theorem d_BU_inspect_17 : decode (mC m_BU_inspect) 17 = .ok (.iload_n 3, 1) := by decide +kernel
theorem d_BU_inspect_18 : decode (mC m_BU_inspect) 18 = .ok (.invokevirtual 156, 3) := by decide +kernel
theorem d_BU_inspect_21 : decode (mC m_BU_inspect) 21 = .ok (.istore 4, 2) := by decide +kernel
theorem d_BU_inspect_23 : decode (mC m_BU_inspect) 23 = .ok (.aload_n 0, 1) := by decide +kernel
theorem d_BU_inspect_24 : decode (mC m_BU_inspect) 24 = .ok (.dup, 1) := by decide +kernel
theorem d_BU_inspect_25 : decode (mC m_BU_inspect) 25 = .ok (.getfield 47, 3) := by decide +kernel
theorem d_BU_inspect_28 : decode (mC m_BU_inspect) 28 = .ok (.iconst 1, 1) := by decide +kernel
theorem d_BU_inspect_29 : decode (mC m_BU_inspect) 29 = .ok (.iadd, 1) := by decide +kernel
theorem d_BU_inspect_30 : decode (mC m_BU_inspect) 30 = .ok (.putfield 47, 3) := by decide +kernel
theorem d_BU_inspect_33 : decode (mC m_BU_inspect) 33 = .ok (.aload_n 1, 1) := by decide +kernel
theorem d_BU_inspect_34 : decode (mC m_BU_inspect) 34 = .ok (.aload_n 0, 1) := by decide +kernel
theorem d_BU_inspect_35 : decode (mC m_BU_inspect) 35 = .ok (.getfield 50, 3) := by decide +kernel
theorem d_BU_inspect_38 : decode (mC m_BU_inspect) 38 = .ok (.putfield 138, 3) := by decide +kernel
theorem d_BU_inspect_41 : decode (mC m_BU_inspect) 41 = .ok (.aload_n 1, 1) := by decide +kernel
theorem d_BU_inspect_42 : decode (mC m_BU_inspect) 42 = .ok (.iconst 0, 1) := by decide +kernel
theorem d_BU_inspect_43 : decode (mC m_BU_inspect) 43 = .ok (.putfield 101, 3) := by decide +kernel
theorem d_BU_inspect_46 : decode (mC m_BU_inspect) 46 = .ok (.iload_n 2, 1) := by decide +kernel
theorem d_BU_inspect_47 : decode (mC m_BU_inspect) 47 = .ok (.ifCond .gt 7, 3) := by decide +kernel
theorem d_BU_inspect_50 : decode (mC m_BU_inspect) 50 = .ok (.iload_n 3, 1) := by decide +kernel
theorem d_BU_inspect_51 : decode (mC m_BU_inspect) 51 = .ok (.ifCond .ne 46, 3) := by decide +kernel
theorem d_BU_inspect_54 : decode (mC m_BU_inspect) 54 = .ok (.aload_n 1, 1) := by decide +kernel
theorem d_BU_inspect_55 : decode (mC m_BU_inspect) 55 = .ok (.dup, 1) := by decide +kernel
theorem d_BU_inspect_56 : decode (mC m_BU_inspect) 56 = .ok (.getfield 129, 3) := by decide +kernel
theorem d_BU_inspect_59 : decode (mC m_BU_inspect) 59 = .ok (.iload 4, 2) := by decide +kernel
theorem d_BU_inspect_61 : decode (mC m_BU_inspect) 61 = .ok (.isub, 1) := by decide +kernel
theorem d_BU_inspect_62 : decode (mC m_BU_inspect) 62 = .ok (.putfield 129, 3) := by decide +kernel
theorem d_BU_inspect_65 : decode (mC m_BU_inspect) 65 = .ok (.aload_n 1, 1) := by decide +kernel
theorem d_BU_inspect_66 : decode (mC m_BU_inspect) 66 = .ok (.dup, 1) := by decide +kernel
theorem d_BU_inspect_67 : decode (mC m_BU_inspect) 67 = .ok (.getfield 160, 3) := by decide +kernel
theorem d_BU_inspect_70 : decode (mC m_BU_inspect) 70 = .ok (.iload 4, 2) := by decide +kernel
theorem d_BU_inspect_72 : decode (mC m_BU_inspect) 72 = .ok (.iadd, 1) := by decide +kernel
theorem d_BU_inspect_73 : decode (mC m_BU_inspect) 73 = .ok (.putfield 160, 3) := by decide +kernel
theorem d_BU_inspect_76 : decode (mC m_BU_inspect) 76 = .ok (.aload_n 0, 1) := by decide +kernel
theorem d_BU_inspect_77 : decode (mC m_BU_inspect) 77 = .ok (.dup, 1) := by decide +kernel
theorem d_BU_inspect_78 : decode (mC m_BU_inspect) 78 = .ok (.getfield 44, 3) := by decide +kernel
theorem d_BU_inspect_81 : decode (mC m_BU_inspect) 81 = .ok (.iload 4, 2) := by decide +kernel
theorem d_BU_inspect_83 : decode (mC m_BU_inspect) 83 = .ok (.iadd, 1) := by decide +kernel
theorem d_BU_inspect_84 : decode (mC m_BU_inspect) 84 = .ok (.putfield 44, 3) := by decide +kernel
theorem d_BU_inspect_87 : decode (mC m_BU_inspect) 87 = .ok (.aload_n 1, 1) := by decide +kernel
theorem d_BU_inspect_88 : decode (mC m_BU_inspect) 88 = .ok (.dup, 1) := by decide +kernel
theorem d_BU_inspect_89 : decode (mC m_BU_inspect) 89 = .ok (.getfield 163, 3) := by decide +kernel
theorem d_BU_inspect_92 : decode (mC m_BU_inspect) 92 = .ok (.iconst 1, 1) := by decide +kernel
theorem d_BU_inspect_93 : decode (mC m_BU_inspect) 93 = .ok (.iadd, 1) := by decide +kernel
theorem d_BU_inspect_94 : decode (mC m_BU_inspect) 94 = .ok (.putfield 163, 3) := by decide +kernel
theorem d_BU_inspect_97 : decode (mC m_BU_inspect) 97 = .ok (.iload_n 2, 1) := by decide +kernel
theorem d_BU_inspect_98 : decode (mC m_BU_inspect) 98 = .ok (.ifCond .le 7, 3) := by decide +kernel
theorem d_BU_inspect_101 : decode (mC m_BU_inspect) 101 = .ok (.aload_n 1, 1) := by decide +kernel
theorem d_BU_inspect_102 : decode (mC m_BU_inspect) 102 = .ok (.invokevirtual 166, 3) := by decide +kernel
theorem d_BU_inspect_105 : decode (mC m_BU_inspect) 105 = .ok (.aload_n 1, 1) := by decide +kernel
theorem d_BU_inspect_106 : decode (mC m_BU_inspect) 106 = .ok (.aload_n 0, 1) := by decide +kernel
theorem d_BU_inspect_107 : decode (mC m_BU_inspect) 107 = .ok (.getfield 50, 3) := by decide +kernel
theorem d_BU_inspect_110 : decode (mC m_BU_inspect) 110 = .ok (.aload_n 0, 1) := by decide +kernel
theorem d_BU_inspect_111 : decode (mC m_BU_inspect) 111 = .ok (.getfield 32, 3) := by decide +kernel
theorem d_BU_inspect_114 : decode (mC m_BU_inspect) 114 = .ok (.iadd, 1) := by decide +kernel
theorem d_BU_inspect_115 : decode (mC m_BU_inspect) 115 = .ok (.putfield 169, 3) := by decide +kernel
theorem d_BU_inspect_118 : decode (mC m_BU_inspect) 118 = .ok (.aload_n 1, 1) := by decide +kernel
theorem d_BU_inspect_119 : decode (mC m_BU_inspect) 119 = .ok (.getfield 163, 3) := by decide +kernel
theorem d_BU_inspect_122 : decode (mC m_BU_inspect) 122 = .ok (.iconst 3, 1) := by decide +kernel
theorem d_BU_inspect_123 : decode (mC m_BU_inspect) 123 = .ok (.if_icmp .lt 8, 3) := by decide +kernel
theorem d_BU_inspect_126 : decode (mC m_BU_inspect) 126 = .ok (.aload_n 1, 1) := by decide +kernel
theorem d_BU_inspect_127 : decode (mC m_BU_inspect) 127 = .ok (.iconst 0, 1) := by decide +kernel
theorem d_BU_inspect_128 : decode (mC m_BU_inspect) 128 = .ok (.putfield 97, 3) := by decide +kernel
theorem d_BU_inspect_131 : decode (mC m_BU_inspect) 131 = .ok (.iload 4, 2) := by decide +kernel
theorem d_BU_inspect_133 : decode (mC m_BU_inspect) 133 = .ok (.ireturn, 1) := by decide +kernel
theorem d_BU_fineFor_0 : decode (mC m_BU_fineFor) 0 = .ok (.aload_n 0, 1) := by decide +kernel
theorem d_BU_fineFor_1 : decode (mC m_BU_fineFor) 1 = .ok (.getfield 29, 3) := by decide +kernel
theorem d_BU_fineFor_4 : decode (mC m_BU_fineFor) 4 = .ok (.aload_n 0, 1) := by decide +kernel
theorem d_BU_fineFor_5 : decode (mC m_BU_fineFor) 5 = .ok (.iload_n 1, 1) := by decide +kernel
theorem d_BU_fineFor_6 : decode (mC m_BU_fineFor) 6 = .ok (.invokevirtual 91, 3) := by decide +kernel
theorem d_BU_fineFor_9 : decode (mC m_BU_fineFor) 9 = .ok (.imul, 1) := by decide +kernel
theorem d_BU_fineFor_10 : decode (mC m_BU_fineFor) 10 = .ok (.iload_n 2, 1) := by decide +kernel
theorem d_BU_fineFor_11 : decode (mC m_BU_fineFor) 11 = .ok (.ifCond .eq 7, 3) := by decide +kernel
theorem d_BU_fineFor_14 : decode (mC m_BU_fineFor) 14 = .ok (.iconst 0, 1) := by decide +kernel
theorem d_BU_fineFor_15 : decode (mC m_BU_fineFor) 15 = .ok (.goto 9, 3) := by decide +kernel
theorem d_BU_fineFor_18 : decode (mC m_BU_fineFor) 18 = .ok (.iconst 5, 1) := by decide +kernel
theorem d_BU_fineFor_19 : decode (mC m_BU_fineFor) 19 = .ok (.aload_n 0, 1) := by decide +kernel
theorem d_BU_fineFor_20 : decode (mC m_BU_fineFor) 20 = .ok (.getfield 29, 3) := by decide +kernel
theorem d_BU_fineFor_23 : decode (mC m_BU_fineFor) 23 = .ok (.imul, 1) := by decide +kernel
theorem d_BU_fineFor_24 : decode (mC m_BU_fineFor) 24 = .ok (.iadd, 1) := by decide +kernel
theorem d_BU_fineFor_25 : decode (mC m_BU_fineFor) 25 = .ok (.ireturn, 1) := by decide +kernel
theorem d_BU_ouncesIn_0 : decode (mC m_BU_ouncesIn) 0 = .ok (.iload_n 1, 1) := by decide +kernel
theorem d_BU_ouncesIn_1 : decode (mC m_BU_ouncesIn) 1 = .ok (.bipush 27, 2) := by decide +kernel
theorem d_BU_ouncesIn_3 : decode (mC m_BU_ouncesIn) 3 = .ok (.iadd, 1) := by decide +kernel
theorem d_BU_ouncesIn_4 : decode (mC m_BU_ouncesIn) 4 = .ok (.bipush 28, 2) := by decide +kernel
theorem d_BU_ouncesIn_6 : decode (mC m_BU_ouncesIn) 6 = .ok (.idiv, 1) := by decide +kernel
theorem d_BU_ouncesIn_7 : decode (mC m_BU_ouncesIn) 7 = .ok (.ireturn, 1) := by decide +kernel
theorem d_BU_repairScale_0 : decode (mC m_BU_repairScale) 0 = .ok (.aload_n 1, 1) := by decide +kernel
theorem d_BU_repairScale_1 : decode (mC m_BU_repairScale) 1 = .ok (.invokevirtual 166, 3) := by decide +kernel
theorem d_BU_repairScale_4 : decode (mC m_BU_repairScale) 4 = .ok (.aload_n 1, 1) := by decide +kernel
theorem d_BU_repairScale_5 : decode (mC m_BU_repairScale) 5 = .ok (.dup, 1) := by decide +kernel
theorem d_BU_repairScale_6 : decode (mC m_BU_repairScale) 6 = .ok (.getfield 129, 3) := by decide +kernel
theorem d_BU_repairScale_9 : decode (mC m_BU_repairScale) 9 = .ok (.bipush 10, 2) := by decide +kernel
theorem d_BU_repairScale_11 : decode (mC m_BU_repairScale) 11 = .ok (.isub, 1) := by decide +kernel
theorem d_BU_repairScale_12 : decode (mC m_BU_repairScale) 12 = .ok (.putfield 129, 3) := by decide +kernel
theorem d_BU_repairScale_15 : decode (mC m_BU_repairScale) 15 = .ok (.aload_n 0, 1) := by decide +kernel
theorem d_BU_repairScale_16 : decode (mC m_BU_repairScale) 16 = .ok (.dup, 1) := by decide +kernel
theorem d_BU_repairScale_17 : decode (mC m_BU_repairScale) 17 = .ok (.getfield 44, 3) := by decide +kernel
theorem d_BU_repairScale_20 : decode (mC m_BU_repairScale) 20 = .ok (.bipush 10, 2) := by decide +kernel
theorem d_BU_repairScale_22 : decode (mC m_BU_repairScale) 22 = .ok (.iadd, 1) := by decide +kernel
theorem d_BU_repairScale_23 : decode (mC m_BU_repairScale) 23 = .ok (.putfield 44, 3) := by decide +kernel
theorem d_BU_repairScale_26 : decode (mC m_BU_repairScale) 26 = .ok (.return_, 1) := by decide +kernel
theorem d_BU_worstWeightFor_0 : decode (mC m_BU_worstWeightFor) 0 = .ok (.iconst 0, 1) := by decide +kernel
theorem d_BU_worstWeightFor_1 : decode (mC m_BU_worstWeightFor) 1 = .ok (.istore_n 2, 1) := by decide +kernel
theorem d_BU_worstWeightFor_2 : decode (mC m_BU_worstWeightFor) 2 = .ok (.iconst 1, 1) := by decide +kernel
theorem d_BU_worstWeightFor_3 : decode (mC m_BU_worstWeightFor) 3 = .ok (.istore_n 3, 1) := by decide +kernel
theorem d_BU_worstWeightFor_4 : decode (mC m_BU_worstWeightFor) 4 = .ok (.iload_n 3, 1) := by decide +kernel
theorem d_BU_worstWeightFor_5 : decode (mC m_BU_worstWeightFor) 5 = .ok (.aload_n 0, 1) := by decide +kernel
theorem d_BU_worstWeightFor_6 : decode (mC m_BU_worstWeightFor) 6 = .ok (.getfield 53, 3) := by decide +kernel
theorem d_BU_worstWeightFor_9 : decode (mC m_BU_worstWeightFor) 9 = .ok (.if_icmp .ge 36, 3) := by decide +kernel
theorem d_BU_worstWeightFor_12 : decode (mC m_BU_worstWeightFor) 12 = .ok (.aload_n 0, 1) := by decide +kernel
theorem d_BU_worstWeightFor_13 : decode (mC m_BU_worstWeightFor) 13 = .ok (.aload_n 1, 1) := by decide +kernel
theorem d_BU_worstWeightFor_14 : decode (mC m_BU_worstWeightFor) 14 = .ok (.aload_n 0, 1) := by decide +kernel
theorem d_BU_worstWeightFor_15 : decode (mC m_BU_worstWeightFor) 15 = .ok (.getfield 9, 3) := by decide +kernel
theorem d_BU_worstWeightFor_18 : decode (mC m_BU_worstWeightFor) 18 = .ok (.iload_n 3, 1) := by decide +kernel
theorem d_BU_worstWeightFor_19 : decode (mC m_BU_worstWeightFor) 19 = .ok (.iaload, 1) := by decide +kernel
theorem d_BU_worstWeightFor_20 : decode (mC m_BU_worstWeightFor) 20 = .ok (.invokevirtual 83, 3) := by decide +kernel
theorem d_BU_worstWeightFor_23 : decode (mC m_BU_worstWeightFor) 23 = .ok (.aload_n 0, 1) := by decide +kernel
theorem d_BU_worstWeightFor_24 : decode (mC m_BU_worstWeightFor) 24 = .ok (.aload_n 1, 1) := by decide +kernel
theorem d_BU_worstWeightFor_25 : decode (mC m_BU_worstWeightFor) 25 = .ok (.aload_n 0, 1) := by decide +kernel
theorem d_BU_worstWeightFor_26 : decode (mC m_BU_worstWeightFor) 26 = .ok (.getfield 9, 3) := by decide +kernel
theorem d_BU_worstWeightFor_29 : decode (mC m_BU_worstWeightFor) 29 = .ok (.iload_n 2, 1) := by decide +kernel
theorem d_BU_worstWeightFor_30 : decode (mC m_BU_worstWeightFor) 30 = .ok (.iaload, 1) := by decide +kernel
theorem d_BU_worstWeightFor_31 : decode (mC m_BU_worstWeightFor) 31 = .ok (.invokevirtual 83, 3) := by decide +kernel
theorem d_BU_worstWeightFor_34 : decode (mC m_BU_worstWeightFor) 34 = .ok (.if_icmp .le 5, 3) := by decide +kernel
theorem d_BU_worstWeightFor_37 : decode (mC m_BU_worstWeightFor) 37 = .ok (.iload_n 3, 1) := by decide +kernel
theorem d_BU_worstWeightFor_38 : decode (mC m_BU_worstWeightFor) 38 = .ok (.istore_n 2, 1) := by decide +kernel
theorem d_BU_worstWeightFor_39 : decode (mC m_BU_worstWeightFor) 39 = .ok (.iinc 3 1, 3) := by decide +kernel
theorem d_BU_worstWeightFor_42 : decode (mC m_BU_worstWeightFor) 42 = .ok (.goto (-38), 3) := by decide +kernel
theorem d_BU_worstWeightFor_45 : decode (mC m_BU_worstWeightFor) 45 = .ok (.iload_n 2, 1) := by decide +kernel
theorem d_BU_worstWeightFor_46 : decode (mC m_BU_worstWeightFor) 46 = .ok (.ireturn, 1) := by decide +kernel
set_option maxRecDepth 20000 in
theorem ct_BU_boundFor {E : En} {h : Hp} {b : Nat} {g : Int32} (hb : hK h b = 5) : CR E m_BU_boundFor [.ref b, .int g] h (some (.int (M_bound (hI h b) g))) (h) := by
  refine ct_of rfl (by decide +kernel) (Nat.le_of_ble_eq_true rfl) ?_
  show G E m_BU_boundFor 0 [(0, .ref b), (1, .int g)] [] h 0 0 _ noX
  refine g_aload_n (pc := 0) d_BU_boundFor_0 rfl 0 rfl ?_
  refine g_getI (pc := 1) (ci := 4) (f := 0) rfl d_BU_boundFor_1 fl_BU_22 (by decide) (by assumption) ?_
  refine g_iload_n (pc := 4) d_BU_boundFor_4 rfl 1 rfl ?_
  refine g_aload_n (pc := 5) d_BU_boundFor_5 rfl 0 rfl ?_
  refine g_getI (pc := 6) (ci := 4) (f := 1) rfl d_BU_boundFor_6 fl_BU_26 (by decide) (by assumption) ?_
  refine g_imul (pc := 9) d_BU_boundFor_9 ?_
  refine g_sipush (pc := 10) (v := 1000) d_BU_boundFor_10 (by decide) ?_
  refine g_idiv (pc := 13) d_BU_boundFor_13 (by decide) ?_
  refine g_iadd (pc := 14) d_BU_boundFor_14 ?_
  refine g_iret (pc := 15) d_BU_boundFor_15 rfl ?_
  exact ⟨rfl, rfl⟩
set_option maxRecDepth 20000 in
theorem ct_BU_excessFor {E : En} {h : Hp} {b a : Nat} {g : Int32} (hb : hK h b = 5) (ha : hK h a = 6) : CR E m_BU_excessFor [.ref b, .ref a, .int g] h (some (.int (M_exc (hI h b) (hI h a) g))) (h) := by
  refine ct_of rfl (by decide +kernel) (Nat.le_of_ble_eq_true rfl) ?_
  show G E m_BU_excessFor 0 [(0, .ref b), (1, .ref a), (2, .int g)] [] h 0 0 _ noX
  refine g_iconst (pc := 0) (v := 0) d_BU_excessFor_0 (by decide) ?_
  refine g_aload_n (pc := 1) d_BU_excessFor_1 rfl 1 rfl ?_
  refine g_iload_n (pc := 2) d_BU_excessFor_2 rfl 2 rfl ?_
  refine g_cV1 (pc := 3) (ci := 5) (As := [.int _]) d_BU_excessFor_3 rfl mv_SH_errorFor st_BU_excessFor_67 rfl rfl (by decide) rfl rfl (Nat.le_of_ble_eq_true rfl) (by assumption) (ct_SH_errorFor (by assumption)) ?_
  refine g_abs (pc := 6) d_BU_excessFor_6 mm_BU_excessFor_71 (Nat.le_of_ble_eq_true rfl) ?_
  refine g_aload_n (pc := 9) d_BU_excessFor_9 rfl 0 rfl ?_
  refine g_iload_n (pc := 10) d_BU_excessFor_10 rfl 2 rfl ?_
  refine g_cV1 (pc := 11) (ci := 4) (As := [.int _]) d_BU_excessFor_11 rfl mv_BU_boundFor st_BU_excessFor_76 rfl rfl (by decide) rfl rfl (Nat.le_of_ble_eq_true rfl) (by assumption) (ct_BU_boundFor (by assumption)) ?_
  refine g_isub (pc := 14) d_BU_excessFor_14 ?_
  refine g_max (pc := 15) d_BU_excessFor_15 mm_BU_excessFor_79 (Nat.le_of_ble_eq_true rfl) ?_
  refine g_iret (pc := 18) d_BU_excessFor_18 rfl ?_
  exact ⟨rfl, rfl⟩
theorem lp_BU_totalFor {E : En} {h : Hp} {b a nw : Nat} {k n : Nat} {X : String → Hp → Prop} (hB : BuOk h b) (ha : hK h a = 6) (hw : hI h b 7 = nI nw) (hn : nw ≤ 6) : ∀ (d i : Nat) (t : Int32), i ≤ nw → nw - i < d → t = M_tot (hI h b) (hI h (rA h b 12)) (hI h a) i → G E m_BU_totalFor 4 [(2, .int t), (3, .int (nI i)), (0, .ref b), (1, .ref a)] [] h k n (fun v h' => v = some (.int (M_tot (hI h b) (hI h (rA h b 12)) (hI h a) nw)) ∧ h' = h) X := by
  obtain ⟨b1, b2, b3, b4, b5, b6, b7, b8, b9⟩ := id hB
  intro d
  induction d with
  | zero => intro i t h1 h2; omega
  | succ d ih =>
    intro i t hi hd ht
    refine g_iload_n (pc := 4) d_BU_totalFor_4 rfl 1 rfl ?_
    refine g_aload_n (pc := 5) d_BU_totalFor_5 rfl 2 rfl ?_
    refine g_getI (pc := 6) (ci := 4) (f := 7) rfl d_BU_totalFor_6 fl_BU_53 (by decide) (by assumption) ?_
    refine g_icmp_ge (pc := 9) (tgt := 32) d_BU_totalFor_9 (by decide) (fun c_9 => ?_) (fun c_9 => ?_)
    · skip
      have e9 : i = nw := by rw [hw] at c_9; have := (nI_leI (by omega) (by omega)).mp c_9; omega
      refine g_iload_n (pc := 32) d_BU_totalFor_32 rfl 0 rfl ?_
      refine g_iret (pc := 33) d_BU_totalFor_33 rfl ?_
      exact ⟨by rw [ht, e9], rfl⟩
    · skip
      have e9 : i < nw := by rw [hw] at c_9; exact Nat.lt_of_not_le (fun z => c_9 ((nI_leI (by omega) (by omega)).mpr z))
      refine g_iload_n (pc := 12) d_BU_totalFor_12 rfl 0 rfl ?_
      refine g_aload_n (pc := 13) d_BU_totalFor_13 rfl 2 rfl ?_
      refine g_aload_n (pc := 14) d_BU_totalFor_14 rfl 3 rfl ?_
      refine g_aload_n (pc := 15) d_BU_totalFor_15 rfl 2 rfl ?_
      refine g_getA (pc := 16) (ci := 4) (f := 12) rfl d_BU_totalFor_16 fl_BU_9 (by decide) (by assumption) (by assumption) ?_
      refine g_iload_n (pc := 19) d_BU_totalFor_19 rfl 1 rfl ?_
      refine g_ialoadX (pc := 20) (hI h (rA h b 12) i) d_BU_totalFor_20 b4 (by omega) (by omega) rfl ?_
      refine g_cV1 (pc := 21) (ci := 4) (As := [.ref _, .int _]) d_BU_totalFor_21 rfl mv_BU_excessFor st_BU_totalFor_83 rfl rfl (by decide) rfl rfl (Nat.le_of_ble_eq_true rfl) (by assumption) (ct_BU_excessFor (by assumption) (by assumption)) ?_
      refine g_iadd (pc := 24) d_BU_totalFor_24 ?_
      refine g_nameI (fun x_1 hx_1 => ?_)
      refine g_istore_n (pc := 25) (lv' := [(2, .int x_1), (3, .int (nI i)), (0, .ref b), (1, .ref a)]) d_BU_totalFor_25 rfl (by decide) rfl ?_
      obtain ⟨x_2, hx_2⟩ : ∃ y : Int32, y = (nI i) + 1 := ⟨_, rfl⟩
      refine g_iinc (pc := 26) (w := 1) (v := x_2) (lv' := [(3, .int x_2), (2, .int x_1), (0, .ref b), (1, .ref a)]) d_BU_totalFor_26 rfl (by rw [hx_2]; rfl) (by decide) rfl ?_
      refine g_goto (pc := 29) (tgt := 4) d_BU_totalFor_29 (by decide) ?_
      have e9 : x_2 = nI (i + 1) := by rw [hx_2]; exact nI_1 i
      subst e9
      refine g_perm [1, 0, 2, 3] rfl ?_
      exact ih (i + 1) _ (by omega) (by omega) (by rw [hx_1, ht]; rfl)
set_option maxRecDepth 20000 in
theorem ct_BU_totalFor {E : En} {h : Hp} {b a nw : Nat} (hB : BuOk h b) (ha : hK h a = 6) (hw : hI h b 7 = nI nw) (hn : nw ≤ 6) : CR E m_BU_totalFor [.ref b, .ref a] h (some (.int (M_tot (hI h b) (hI h (rA h b 12)) (hI h a) nw))) (h) := by
  refine ct_of rfl (by decide +kernel) (Nat.le_of_ble_eq_true rfl) ?_
  show G E m_BU_totalFor 0 [(0, .ref b), (1, .ref a)] [] h 0 0 _ noX
  obtain ⟨b1, b2, b3, b4, b5, b6, b7, b8, b9⟩ := id hB
  refine g_iconst (pc := 0) (v := 0) d_BU_totalFor_0 (by decide) ?_
  refine g_nameI (fun x_1 hx_1 => ?_)
  refine g_istore_n (pc := 1) (lv' := [(2, .int x_1), (0, .ref b), (1, .ref a)]) d_BU_totalFor_1 rfl (by decide) rfl ?_
  refine g_iconst (pc := 2) (v := 0) d_BU_totalFor_2 (by decide) ?_
  refine g_nameI (fun x_2 hx_2 => ?_)
  refine g_istore_n (pc := 3) (lv' := [(3, .int x_2), (2, .int x_1), (0, .ref b), (1, .ref a)]) d_BU_totalFor_3 rfl (by decide) rfl ?_
  refine g_perm [1, 0, 2, 3] rfl ?_
  subst hx_1
  subst hx_2
  exact lp_BU_totalFor hB ha hw hn (nw + 1) 0 _ (Nat.zero_le _) (by omega) rfl
set_option maxRecDepth 20000 in
theorem ct_BU_hasTrueScale {E : En} {h : Hp} {b a nw : Nat} (hB : BuOk h b) (ha : hK h a = 6) (hw : hI h b 7 = nI nw) (hn : nw ≤ 6) : CR E m_BU_hasTrueScale [.ref b, .ref a] h (some (.int (bI (decide (M_tot (hI h b) (hI h (rA h b 12)) (hI h a) nw = 0))))) (h) := by
  refine ct_of rfl (by decide +kernel) (Nat.le_of_ble_eq_true rfl) ?_
  show G E m_BU_hasTrueScale 0 [(0, .ref b), (1, .ref a)] [] h 0 0 _ noX
  refine g_aload_n (pc := 0) d_BU_hasTrueScale_0 rfl 0 rfl ?_
  refine g_aload_n (pc := 1) d_BU_hasTrueScale_1 rfl 1 rfl ?_
  refine g_cV1 (pc := 2) (ci := 4) (As := [.ref _]) d_BU_hasTrueScale_2 rfl mv_BU_totalFor st_BU_hasTrueScale_87 rfl rfl (by decide) rfl rfl (Nat.le_of_ble_eq_true rfl) (by exact hB.1) (ct_BU_totalFor (by assumption) (by assumption) (by assumption) (by assumption)) ?_
  refine g_if_ne (pc := 5) (tgt := 12) d_BU_hasTrueScale_5 (by decide) (fun c_5 => ?_) (fun c_5 => ?_)
  · skip
    refine g_iconst (pc := 12) (v := 0) d_BU_hasTrueScale_12 (by decide) ?_
    refine g_zret (pc := 13) d_BU_hasTrueScale_13 rfl rfl ?_
    exact ⟨by simp_all [bI], rfl⟩
  · skip
    refine g_iconst (pc := 8) (v := 1) d_BU_hasTrueScale_8 (by decide) ?_
    refine g_goto (pc := 9) (tgt := 13) d_BU_hasTrueScale_9 (by decide) ?_
    refine g_zret (pc := 13) d_BU_hasTrueScale_13 rfl rfl ?_
    exact ⟨by simp_all [bI], rfl⟩
set_option maxRecDepth 20000 in
theorem ct_BU_ouncesIn {E : En} {h : Hp} {b : Nat} {g : Int32}  : CR E m_BU_ouncesIn [.ref b, .int g] h (some (.int (M_ounces g))) (h) := by
  refine ct_of rfl (by decide +kernel) (Nat.le_of_ble_eq_true rfl) ?_
  show G E m_BU_ouncesIn 0 [(0, .ref b), (1, .int g)] [] h 0 0 _ noX
  refine g_iload_n (pc := 0) d_BU_ouncesIn_0 rfl 1 rfl ?_
  refine g_bipush (pc := 1) (v := 27) d_BU_ouncesIn_1 (by decide) ?_
  refine g_iadd (pc := 3) d_BU_ouncesIn_3 ?_
  refine g_bipush (pc := 4) (v := 28) d_BU_ouncesIn_4 (by decide) ?_
  refine g_idiv (pc := 6) d_BU_ouncesIn_6 (by decide) ?_
  refine g_iret (pc := 7) d_BU_ouncesIn_7 rfl ?_
  exact ⟨rfl, rfl⟩
set_option maxRecDepth 20000 in
theorem ct_BU_fineFor {E : En} {h : Hp} {b : Nat} {g : Int32} {z : Bool} (hb : hK h b = 5) : CR E m_BU_fineFor [.ref b, .int g, .int (bI z)] h (some (.int (M_fine (hI h b) g z))) (h) := by
  refine ct_of rfl (by decide +kernel) (Nat.le_of_ble_eq_true rfl) ?_
  show G E m_BU_fineFor 0 [(0, .ref b), (1, .int g), (2, .int (bI z))] [] h 0 0 _ noX
  refine g_aload_n (pc := 0) d_BU_fineFor_0 rfl 0 rfl ?_
  refine g_getI (pc := 1) (ci := 4) (f := 2) rfl d_BU_fineFor_1 fl_BU_29 (by decide) (by assumption) ?_
  refine g_aload_n (pc := 4) d_BU_fineFor_4 rfl 0 rfl ?_
  refine g_iload_n (pc := 5) d_BU_fineFor_5 rfl 1 rfl ?_
  refine g_cV1 (pc := 6) (ci := 4) (As := [.int _]) d_BU_fineFor_6 rfl mv_BU_ouncesIn st_BU_fineFor_91 rfl rfl (by decide) rfl rfl (Nat.le_of_ble_eq_true rfl) (by assumption) (ct_BU_ouncesIn ) ?_
  refine g_imul (pc := 9) d_BU_fineFor_9 ?_
  refine g_iload_n (pc := 10) d_BU_fineFor_10 rfl 2 rfl ?_
  refine g_if_eq (pc := 11) (tgt := 18) d_BU_fineFor_11 (by decide) (fun c_11 => ?_) (fun c_11 => ?_)
  · skip
    refine g_iconst (pc := 18) (v := 5) d_BU_fineFor_18 (by decide) ?_
    refine g_aload_n (pc := 19) d_BU_fineFor_19 rfl 0 rfl ?_
    refine g_getI (pc := 20) (ci := 4) (f := 2) rfl d_BU_fineFor_20 fl_BU_29 (by decide) (by assumption) ?_
    refine g_imul (pc := 23) d_BU_fineFor_23 ?_
    refine g_iadd (pc := 24) d_BU_fineFor_24 ?_
    refine g_iret (pc := 25) d_BU_fineFor_25 rfl ?_
    exact ⟨by cases z <;> simp_all [M_fine, bI], rfl⟩
  · skip
    refine g_iconst (pc := 14) (v := 0) d_BU_fineFor_14 (by decide) ?_
    refine g_goto (pc := 15) (tgt := 24) d_BU_fineFor_15 (by decide) ?_
    refine g_iadd (pc := 24) d_BU_fineFor_24 ?_
    refine g_iret (pc := 25) d_BU_fineFor_25 rfl ?_
    exact ⟨by cases z <;> simp_all [M_fine, bI], rfl⟩
set_option maxRecDepth 20000 in
theorem ct_BU_gainFor {E : En} {h : Hp} {b a : Nat} {g : Int32} (hb : hK h b = 5) (ha : hK h a = 6) : CR E m_BU_gainFor [.ref b, .ref a, .int g] h (some (.int (M_gain (hI h b) (hI h a) g))) (h) := by
  refine ct_of rfl (by decide +kernel) (Nat.le_of_ble_eq_true rfl) ?_
  show G E m_BU_gainFor 0 [(0, .ref b), (1, .ref a), (2, .int g)] [] h 0 0 _ noX
  refine g_aload_n (pc := 0) d_BU_gainFor_0 rfl 1 rfl ?_
  refine g_getI (pc := 1) (ci := 5) (f := 5) rfl d_BU_gainFor_1 fl_BU_94 (by decide) (by assumption) ?_
  refine g_iload_n (pc := 4) d_BU_gainFor_4 rfl 2 rfl ?_
  refine g_imul (pc := 5) d_BU_gainFor_5 ?_
  refine g_aload_n (pc := 6) d_BU_gainFor_6 rfl 0 rfl ?_
  refine g_getI (pc := 7) (ci := 4) (f := 4) rfl d_BU_gainFor_7 fl_BU_35 (by decide) (by assumption) ?_
  refine g_imul (pc := 10) d_BU_gainFor_10 ?_
  refine g_sipush (pc := 11) (v := 1000) d_BU_gainFor_11 (by decide) ?_
  refine g_idiv (pc := 14) d_BU_gainFor_14 (by decide) ?_
  refine g_iret (pc := 15) d_BU_gainFor_15 rfl ?_
  exact ⟨rfl, rfl⟩
set_option maxRecDepth 20000 in
theorem ct_BU_canBeVisited {E : En} {h : Hp} {b a : Nat} (hb : hK h b = 5) (ha : hK h a = 6) : CR E m_BU_canBeVisited [.ref b, .ref a] h (some (.int (bI (M_can (hI h b) (hI h a))))) (h) := by
  refine ct_of rfl (by decide +kernel) (Nat.le_of_ble_eq_true rfl) ?_
  show G E m_BU_canBeVisited 0 [(0, .ref b), (1, .ref a)] [] h 0 0 _ noX
  refine g_aload_n (pc := 0) d_BU_canBeVisited_0 rfl 1 rfl ?_
  refine g_getI (pc := 1) (ci := 5) (f := 12) rfl d_BU_canBeVisited_1 fl_BU_97 (by decide) (by assumption) ?_
  refine g_if_eq (pc := 4) (tgt := 22) d_BU_canBeVisited_4 (by decide) (fun c_4 => ?_) (fun c_4 => ?_)
  · skip
    refine g_iconst (pc := 22) (v := 0) d_BU_canBeVisited_22 (by decide) ?_
    refine g_zret (pc := 23) d_BU_canBeVisited_23 rfl rfl ?_
    exact ⟨by simp_all [M_can, bI], rfl⟩
  · skip
    refine g_aload_n (pc := 7) d_BU_canBeVisited_7 rfl 1 rfl ?_
    refine g_getI (pc := 8) (ci := 5) (f := 10) rfl d_BU_canBeVisited_8 fl_BU_138 (by decide) (by assumption) ?_
    refine g_aload_n (pc := 11) d_BU_canBeVisited_11 rfl 0 rfl ?_
    refine g_getI (pc := 12) (ci := 4) (f := 9) rfl d_BU_canBeVisited_12 fl_BU_50 (by decide) (by assumption) ?_
    refine g_icmp_eq (pc := 15) (tgt := 22) d_BU_canBeVisited_15 (by decide) (fun c_15 => ?_) (fun c_15 => ?_)
    · skip
      refine g_iconst (pc := 22) (v := 0) d_BU_canBeVisited_22 (by decide) ?_
      refine g_zret (pc := 23) d_BU_canBeVisited_23 rfl rfl ?_
      exact ⟨by simp_all [M_can, bI], rfl⟩
    · skip
      refine g_iconst (pc := 18) (v := 1) d_BU_canBeVisited_18 (by decide) ?_
      refine g_goto (pc := 19) (tgt := 23) d_BU_canBeVisited_19 (by decide) ?_
      refine g_zret (pc := 23) d_BU_canBeVisited_23 rfl rfl ?_
      exact ⟨by simp_all [M_can, bI], rfl⟩
set_option maxRecDepth 20000 in
theorem ct_BU_makeSales {E : En} {h : Hp} {b a : Nat} (hb : hK h b = 5) (ha : hK h a = 6) : CR E m_BU_makeSales [.ref b, .ref a] h (none) (sA h a (M_sell (hI h b) (hI h a))) := by
  refine ct_of rfl (by decide +kernel) (Nat.le_of_ble_eq_true rfl) ?_
  show G E m_BU_makeSales 0 [(0, .ref b), (1, .ref a)] [] h 0 0 _ noX
  have hab : b ≠ a := fun e => by rw [e] at hb; omega
  have hba : a ≠ b := fun e => hab e.symm
  refine g_aload_n (pc := 0) d_BU_makeSales_0 rfl 1 rfl ?_
  refine g_aload_n (pc := 1) d_BU_makeSales_1 rfl 0 rfl ?_
  refine g_getI (pc := 2) (ci := 4) (f := 9) rfl d_BU_makeSales_2 fl_BU_50 (by decide) (by assumption) ?_
  refine g_cV1 (pc := 5) (ci := 5) (As := [.int _]) d_BU_makeSales_5 rfl mv_SH_falseGramsOn st_BU_makeSales_123 rfl rfl (by decide) rfl rfl (Nat.le_of_ble_eq_true rfl) (by assumption) (ct_SH_falseGramsOn (by assumption)) ?_
  refine g_nameI (fun x_1 hx_1 => ?_)
  refine g_istore_n (pc := 8) (lv' := [(2, .int x_1), (0, .ref b), (1, .ref a)]) d_BU_makeSales_8 rfl (by decide) rfl ?_
  refine g_aload_n (pc := 9) d_BU_makeSales_9 rfl 1 rfl ?_
  refine g_aload_n (pc := 10) d_BU_makeSales_10 rfl 2 rfl ?_
  refine g_iload_n (pc := 11) d_BU_makeSales_11 rfl 0 rfl ?_
  refine g_cV1 (pc := 12) (ci := 4) (As := [.ref _, .int _]) d_BU_makeSales_12 rfl mv_BU_gainFor st_BU_makeSales_126 rfl rfl (by decide) rfl rfl (Nat.le_of_ble_eq_true rfl) (by assumption) (ct_BU_gainFor (by assumption) (by assumption)) ?_
  refine g_nameI (fun x_2 hx_2 => ?_)
  refine g_istore_n (pc := 15) (lv' := [(3, .int x_2), (2, .int x_1), (0, .ref b), (1, .ref a)]) d_BU_makeSales_15 rfl (by decide) rfl ?_
  refine g_aload_n (pc := 16) d_BU_makeSales_16 rfl 3 rfl ?_
  refine g_dup (pc := 17) d_BU_makeSales_17 rfl ?_
  refine g_getI (pc := 18) (ci := 5) (f := 0) rfl d_BU_makeSales_18 fl_BU_129 (by decide) (by assumption) ?_
  refine g_iload_n (pc := 21) d_BU_makeSales_21 rfl 0 rfl ?_
  refine g_iadd (pc := 22) d_BU_makeSales_22 ?_
  refine g_putI (pc := 23) (ci := 5) (f := 0) rfl d_BU_makeSales_23 fl_BU_129 (fun q hq => by cases hq; exact rfl) rfl rfl (by decide) (by assumption) ?_
  refine g_aload_n (pc := 26) d_BU_makeSales_26 rfl 3 rfl ?_
  refine g_dup (pc := 27) d_BU_makeSales_27 rfl ?_
  refine g_getI (pc := 28) (ci := 5) (f := 14) rfl d_BU_makeSales_28 fl_BU_132 (by decide) (by assumption) ?_
  refine g_iload_n (pc := 31) d_BU_makeSales_31 rfl 0 rfl ?_
  refine g_iadd (pc := 32) d_BU_makeSales_32 ?_
  refine g_putI (pc := 33) (ci := 5) (f := 14) rfl d_BU_makeSales_33 fl_BU_132 (fun q hq => by cases hq; exact rfl) rfl rfl (by decide) (by assumption) ?_
  refine g_aload_n (pc := 36) d_BU_makeSales_36 rfl 3 rfl ?_
  refine g_getI (pc := 37) (ci := 5) (f := 5) rfl d_BU_makeSales_37 fl_BU_94 (by decide) (by assumption) ?_
  refine g_if_le (pc := 40) (tgt := 64) d_BU_makeSales_40 (by decide) (fun c_40 => ?_) (fun c_40 => ?_)
  · skip
    refine g_vret (pc := 64) d_BU_makeSales_64 rfl ?_
    refine ⟨rfl, ?_⟩
    subst hx_1; subst hx_2
    simp [sI_sA, sA_sA, hI_sA_same, u1_at] at *
    unfold M_sell
    simp only []
    split
    all_goals first | rfl | (exfalso; simp only [i_lt, i_le] at *; omega)
  · skip
    refine g_iload_n (pc := 43) d_BU_makeSales_43 rfl 1 rfl ?_
    refine g_aload_n (pc := 44) d_BU_makeSales_44 rfl 3 rfl ?_
    refine g_getI (pc := 45) (ci := 5) (f := 4) rfl d_BU_makeSales_45 fl_BU_135 (by decide) (by assumption) ?_
    refine g_bipush (pc := 48) (v := 20) d_BU_makeSales_48 (by decide) ?_
    refine g_idiv (pc := 50) d_BU_makeSales_50 (by decide) ?_
    refine g_icmp_le (pc := 51) (tgt := 64) d_BU_makeSales_51 (by decide) (fun c_51 => ?_) (fun c_51 => ?_)
    · skip
      refine g_vret (pc := 64) d_BU_makeSales_64 rfl ?_
      refine ⟨rfl, ?_⟩
      subst hx_1; subst hx_2
      simp [sI_sA, sA_sA, hI_sA_same, u1_at] at *
      unfold M_sell
      simp only []
      split
      all_goals first | rfl | (exfalso; simp only [i_lt, i_le] at *; omega)
    · skip
      refine g_aload_n (pc := 54) d_BU_makeSales_54 rfl 3 rfl ?_
      refine g_dup (pc := 55) d_BU_makeSales_55 rfl ?_
      refine g_getI (pc := 56) (ci := 5) (f := 8) rfl d_BU_makeSales_56 fl_BU_101 (by decide) (by assumption) ?_
      refine g_iconst (pc := 59) (v := 1) d_BU_makeSales_59 (by decide) ?_
      refine g_iadd (pc := 60) d_BU_makeSales_60 ?_
      refine g_putI (pc := 61) (ci := 5) (f := 8) rfl d_BU_makeSales_61 fl_BU_101 (fun q hq => by cases hq; exact rfl) rfl rfl (by decide) (by assumption) ?_
      refine g_vret (pc := 64) d_BU_makeSales_64 rfl ?_
      refine ⟨rfl, ?_⟩
      subst hx_1; subst hx_2
      simp [sI_sA, sA_sA, hI_sA_same, u1_at] at *
      unfold M_sell
      simp only []
      split
      all_goals first | rfl | (exfalso; simp only [i_lt, i_le] at *; omega)
set_option maxRecDepth 20000 in
theorem ct_BU_repairScale {E : En} {h : Hp} {b a : Nat} (hb : hK h b = 5) (ha : hK h a = 6) : CR E m_BU_repairScale [.ref b, .ref a] h (none) (sA (sA h a (u1 (M_straight (hI h a)) 0 (hI h a 0 - 10))) b (u1 (hI h b) 10 (hI h b 10 + 10))) := by
  refine ct_of rfl (by decide +kernel) (Nat.le_of_ble_eq_true rfl) ?_
  show G E m_BU_repairScale 0 [(0, .ref b), (1, .ref a)] [] h 0 0 _ noX
  have hab : b ≠ a := fun e => by rw [e] at hb; omega
  have hba : a ≠ b := fun e => hab e.symm
  refine g_aload_n (pc := 0) d_BU_repairScale_0 rfl 1 rfl ?_
  refine g_cV0 (pc := 1) (ci := 5) (As := []) d_BU_repairScale_1 rfl mv_SH_straighten st_BU_repairScale_166 rfl rfl (by decide) rfl rfl (Nat.le_of_ble_eq_true rfl) (by assumption) (ct_SH_straighten (by assumption)) ?_
  refine g_aload_n (pc := 4) d_BU_repairScale_4 rfl 1 rfl ?_
  refine g_dup (pc := 5) d_BU_repairScale_5 rfl ?_
  refine g_getI (pc := 6) (ci := 5) (f := 0) rfl d_BU_repairScale_6 fl_BU_129 (by decide) (by assumption) ?_
  refine g_bipush (pc := 9) (v := 10) d_BU_repairScale_9 (by decide) ?_
  refine g_isub (pc := 11) d_BU_repairScale_11 ?_
  refine g_putI (pc := 12) (ci := 5) (f := 0) rfl d_BU_repairScale_12 fl_BU_129 (fun q hq => by cases hq; exact rfl) rfl rfl (by decide) (by assumption) ?_
  refine g_aload_n (pc := 15) d_BU_repairScale_15 rfl 0 rfl ?_
  refine g_dup (pc := 16) d_BU_repairScale_16 rfl ?_
  refine g_getI (pc := 17) (ci := 4) (f := 10) rfl d_BU_repairScale_17 fl_BU_44 (by decide) (by assumption) ?_
  refine g_bipush (pc := 20) (v := 10) d_BU_repairScale_20 (by decide) ?_
  refine g_iadd (pc := 22) d_BU_repairScale_22 ?_
  refine g_putI (pc := 23) (ci := 4) (f := 10) rfl d_BU_repairScale_23 fl_BU_44 (fun q hq => by cases hq; exact rfl) rfl rfl (by decide) (by assumption) ?_
  refine g_vret (pc := 26) d_BU_repairScale_26 rfl ?_
  exact ⟨rfl, by simp [sI_sA, sA_sA, hI_sA_same, u1_at, M_straight, hI_sA_ne hab]⟩
set_option maxRecDepth 20000 in
theorem ct_BU_inspect {E : En} {h : Hp} {b a nw : Nat} (hB : BuOk h b) (ha : hK h a = 6) (hw : hI h b 7 = nI nw) (hn : nw ≤ 6) : CR E m_BU_inspect [.ref b, .ref a] h (some (.int (M_fine (hI h b) (M_tot (hI h b) (hI h (rA h b 12)) (hI h a) nw) (M_stamped (hI h a) (hI h b 9))))) (sA (sA h a (M_visS (hI h b) (hI h a) (M_tot (hI h b) (hI h (rA h b 12)) (hI h a) nw) (M_stamped (hI h a) (hI h b 9)))) b (M_visC (hI h b) (M_tot (hI h b) (hI h (rA h b 12)) (hI h a) nw) (M_stamped (hI h a) (hI h b 9)))) := by
  refine ct_of rfl (by decide +kernel) (Nat.le_of_ble_eq_true rfl) ?_
  show G E m_BU_inspect 0 [(0, .ref b), (1, .ref a)] [] h 0 0 _ noX
  have hb := hB.1
  have hab : b ≠ a := fun e => by rw [e] at hb; omega
  have hba : a ≠ b := fun e => hab e.symm
  refine g_aload_n (pc := 0) d_BU_inspect_0 rfl 0 rfl ?_
  refine g_aload_n (pc := 1) d_BU_inspect_1 rfl 1 rfl ?_
  refine g_cV1 (pc := 2) (ci := 4) (As := [.ref _]) d_BU_inspect_2 rfl mv_BU_totalFor st_BU_inspect_87 rfl rfl (by decide) rfl rfl (Nat.le_of_ble_eq_true rfl) (by assumption) (ct_BU_totalFor (by assumption) (by assumption) (by assumption) (by assumption)) ?_
  refine g_istore_n (pc := 5) (lv' := [(2, .int (M_tot (hI h b) (hI h (rA h b 12)) (hI h a) nw)), (0, .ref b), (1, .ref a)]) d_BU_inspect_5 rfl (by decide) rfl ?_
  refine g_aload_n (pc := 6) d_BU_inspect_6 rfl 2 rfl ?_
  refine g_aload_n (pc := 7) d_BU_inspect_7 rfl 1 rfl ?_
  refine g_getI (pc := 8) (ci := 4) (f := 9) rfl d_BU_inspect_8 fl_BU_50 (by decide) (by assumption) ?_
  refine g_cV1 (pc := 11) (ci := 5) (As := [.int _]) d_BU_inspect_11 rfl mv_SH_isStampedOn st_BU_inspect_152 rfl rfl (by decide) rfl rfl (Nat.le_of_ble_eq_true rfl) (by assumption) (ct_SH_isStampedOn (by assumption)) ?_
  refine g_istore_n (pc := 14) (lv' := [(3, .int (bI (M_stamped (hI h a) (hI h b 9)))), (2, .int (M_tot (hI h b) (hI h (rA h b 12)) (hI h a) nw)), (0, .ref b), (1, .ref a)]) d_BU_inspect_14 rfl (by decide) rfl ?_
  refine g_aload_n (pc := 15) d_BU_inspect_15 rfl 2 rfl ?_
  refine g_iload_n (pc := 16) d_BU_inspect_16 rfl 1 rfl ?_
  refine g_iload_n (pc := 17) d_BU_inspect_17 rfl 0 rfl ?_
  refine g_cV1 (pc := 18) (ci := 4) (As := [.int _, .int _]) d_BU_inspect_18 rfl mv_BU_fineFor st_BU_inspect_156 rfl rfl (by decide) rfl rfl (Nat.le_of_ble_eq_true rfl) (by assumption) (ct_BU_fineFor (by assumption)) ?_
  refine g_istore (pc := 21) (lv' := [(4, .int (M_fine (hI h b) (M_tot (hI h b) (hI h (rA h b 12)) (hI h a) nw) (M_stamped (hI h a) (hI h b 9)))), (3, .int (bI (M_stamped (hI h a) (hI h b 9)))), (2, .int (M_tot (hI h b) (hI h (rA h b 12)) (hI h a) nw)), (0, .ref b), (1, .ref a)]) d_BU_inspect_21 (by decide) rfl ?_
  refine g_aload_n (pc := 23) d_BU_inspect_23 rfl 3 rfl ?_
  refine g_dup (pc := 24) d_BU_inspect_24 rfl ?_
  refine g_getI (pc := 25) (ci := 4) (f := 11) rfl d_BU_inspect_25 fl_BU_47 (by decide) (by assumption) ?_
  refine g_iconst (pc := 28) (v := 1) d_BU_inspect_28 (by decide) ?_
  refine g_iadd (pc := 29) d_BU_inspect_29 ?_
  refine g_putI (pc := 30) (ci := 4) (f := 11) rfl d_BU_inspect_30 fl_BU_47 (fun q hq => by cases hq; exact rfl) rfl rfl (by decide) (by assumption) ?_
  refine g_aload_n (pc := 33) d_BU_inspect_33 rfl 4 rfl ?_
  refine g_aload_n (pc := 34) d_BU_inspect_34 rfl 3 rfl ?_
  refine g_getI (pc := 35) (ci := 4) (f := 9) rfl d_BU_inspect_35 fl_BU_50 (by decide) (by assumption) ?_
  refine g_putI (pc := 38) (ci := 5) (f := 10) rfl d_BU_inspect_38 fl_BU_138 (fun q hq => by cases hq; exact rfl) rfl rfl (by decide) (by assumption) ?_
  refine g_aload_n (pc := 41) d_BU_inspect_41 rfl 4 rfl ?_
  refine g_iconst (pc := 42) (v := 0) d_BU_inspect_42 (by decide) ?_
  refine g_putI (pc := 43) (ci := 5) (f := 8) rfl d_BU_inspect_43 fl_BU_101 (fun q hq => by cases hq; exact rfl) rfl rfl (by decide) (by assumption) ?_
  refine g_iload_n (pc := 46) d_BU_inspect_46 rfl 2 rfl ?_
  refine g_if_gt (pc := 47) (tgt := 54) d_BU_inspect_47 (by decide) (fun c_47 => ?_) (fun c_47 => ?_)
  · skip
    refine g_aload_n (pc := 54) d_BU_inspect_54 rfl 4 rfl ?_
    refine g_dup (pc := 55) d_BU_inspect_55 rfl ?_
    refine g_getI (pc := 56) (ci := 5) (f := 0) rfl d_BU_inspect_56 fl_BU_129 (by decide) (by assumption) ?_
    refine g_iload (pc := 59) d_BU_inspect_59 0 rfl ?_
    refine g_isub (pc := 61) d_BU_inspect_61 ?_
    refine g_putI (pc := 62) (ci := 5) (f := 0) rfl d_BU_inspect_62 fl_BU_129 (fun q hq => by cases hq; exact rfl) rfl rfl (by decide) (by assumption) ?_
    refine g_aload_n (pc := 65) d_BU_inspect_65 rfl 4 rfl ?_
    refine g_dup (pc := 66) d_BU_inspect_66 rfl ?_
    refine g_getI (pc := 67) (ci := 5) (f := 13) rfl d_BU_inspect_67 fl_BU_160 (by decide) (by assumption) ?_
    refine g_iload (pc := 70) d_BU_inspect_70 0 rfl ?_
    refine g_iadd (pc := 72) d_BU_inspect_72 ?_
    refine g_putI (pc := 73) (ci := 5) (f := 13) rfl d_BU_inspect_73 fl_BU_160 (fun q hq => by cases hq; exact rfl) rfl rfl (by decide) (by assumption) ?_
    refine g_aload_n (pc := 76) d_BU_inspect_76 rfl 3 rfl ?_
    refine g_dup (pc := 77) d_BU_inspect_77 rfl ?_
    refine g_getI (pc := 78) (ci := 4) (f := 10) rfl d_BU_inspect_78 fl_BU_44 (by decide) (by assumption) ?_
    refine g_iload (pc := 81) d_BU_inspect_81 0 rfl ?_
    refine g_iadd (pc := 83) d_BU_inspect_83 ?_
    refine g_putI (pc := 84) (ci := 4) (f := 10) rfl d_BU_inspect_84 fl_BU_44 (fun q hq => by cases hq; exact rfl) rfl rfl (by decide) (by assumption) ?_
    refine g_aload_n (pc := 87) d_BU_inspect_87 rfl 4 rfl ?_
    refine g_dup (pc := 88) d_BU_inspect_88 rfl ?_
    refine g_getI (pc := 89) (ci := 5) (f := 9) rfl d_BU_inspect_89 fl_BU_163 (by decide) (by assumption) ?_
    refine g_iconst (pc := 92) (v := 1) d_BU_inspect_92 (by decide) ?_
    refine g_iadd (pc := 93) d_BU_inspect_93 ?_
    refine g_putI (pc := 94) (ci := 5) (f := 9) rfl d_BU_inspect_94 fl_BU_163 (fun q hq => by cases hq; exact rfl) rfl rfl (by decide) (by assumption) ?_
    refine g_iload_n (pc := 97) d_BU_inspect_97 rfl 2 rfl ?_
    refine g_if_le (pc := 98) (tgt := 105) d_BU_inspect_98 (by decide) (fun c_98 => ?_) (fun c_98 => ?_)
    · skip
      refine g_aload_n (pc := 105) d_BU_inspect_105 rfl 4 rfl ?_
      refine g_aload_n (pc := 106) d_BU_inspect_106 rfl 3 rfl ?_
      refine g_getI (pc := 107) (ci := 4) (f := 9) rfl d_BU_inspect_107 fl_BU_50 (by decide) (by assumption) ?_
      refine g_aload_n (pc := 110) d_BU_inspect_110 rfl 3 rfl ?_
      refine g_getI (pc := 111) (ci := 4) (f := 3) rfl d_BU_inspect_111 fl_BU_32 (by decide) (by assumption) ?_
      refine g_iadd (pc := 114) d_BU_inspect_114 ?_
      refine g_putI (pc := 115) (ci := 5) (f := 11) rfl d_BU_inspect_115 fl_BU_169 (fun q hq => by cases hq; exact rfl) rfl rfl (by decide) (by assumption) ?_
      refine g_aload_n (pc := 118) d_BU_inspect_118 rfl 4 rfl ?_
      refine g_getI (pc := 119) (ci := 5) (f := 9) rfl d_BU_inspect_119 fl_BU_163 (by decide) (by assumption) ?_
      refine g_iconst (pc := 122) (v := 3) d_BU_inspect_122 (by decide) ?_
      refine g_icmp_lt (pc := 123) (tgt := 131) d_BU_inspect_123 (by decide) (fun c_123 => ?_) (fun c_123 => ?_)
      · skip
        refine g_iload (pc := 131) d_BU_inspect_131 0 rfl ?_
        refine g_iret (pc := 133) d_BU_inspect_133 rfl ?_
        generalize hz : M_stamped (hI h a) (hI h b 9) = z at *
        generalize ht : M_tot (hI h b) (hI h (rA h b 12)) (hI h a) nw = t at *
        refine ⟨rfl, ?_⟩
        have cm : ∀ (h : Hp) (f g : Nat → Int32), sA (sA h b f) a g = sA (sA h a g) b f := fun _ _ _ => sA_comm hab
        simp only [sI_sA, sA_sA, hI_sA_same, u1_at, hI_sA_ne hab, hI_sA_ne hba, cm] at *
        simp [M_straight, u1_at] at *
        by_cases q1 : 0 < t <;> by_cases q3 : 3 ≤ hI h a 9 + 1 <;> by_cases q4 : 3 ≤ hI h a 9 <;> cases z
        all_goals first | (simp [M_visS, M_visC, u1_at, M_straight, q1, q3, q4]; done) | (exfalso; (try simp [bI] at *) <;> (try simp only [i_lt, i_le] at *) <;> omega)
      · skip
        refine g_aload_n (pc := 126) d_BU_inspect_126 rfl 4 rfl ?_
        refine g_iconst (pc := 127) (v := 0) d_BU_inspect_127 (by decide) ?_
        refine g_putI (pc := 128) (ci := 5) (f := 12) rfl d_BU_inspect_128 fl_BU_97 (fun q hq => by cases hq; exact rfl) (by rfl) (by rfl) (by decide) (by assumption) ?_
        refine g_iload (pc := 131) d_BU_inspect_131 0 rfl ?_
        refine g_iret (pc := 133) d_BU_inspect_133 rfl ?_
        generalize hz : M_stamped (hI h a) (hI h b 9) = z at *
        generalize ht : M_tot (hI h b) (hI h (rA h b 12)) (hI h a) nw = t at *
        refine ⟨rfl, ?_⟩
        have cm : ∀ (h : Hp) (f g : Nat → Int32), sA (sA h b f) a g = sA (sA h a g) b f := fun _ _ _ => sA_comm hab
        simp only [sI_sA, sA_sA, hI_sA_same, u1_at, hI_sA_ne hab, hI_sA_ne hba, cm] at *
        simp [M_straight, u1_at] at *
        by_cases q1 : 0 < t <;> by_cases q3 : 3 ≤ hI h a 9 + 1 <;> by_cases q4 : 3 ≤ hI h a 9 <;> cases z
        all_goals first | (simp [M_visS, M_visC, u1_at, M_straight, q1, q3, q4]; done) | (exfalso; (try simp [bI] at *) <;> (try simp only [i_lt, i_le] at *) <;> omega)
    · skip
      refine g_aload_n (pc := 101) d_BU_inspect_101 rfl 4 rfl ?_
      refine g_cV0 (pc := 102) (ci := 5) (As := []) d_BU_inspect_102 rfl mv_SH_straighten st_BU_inspect_166 rfl rfl (by decide) rfl rfl (Nat.le_of_ble_eq_true rfl) (by assumption) (ct_SH_straighten (by assumption)) ?_
      refine g_aload_n (pc := 105) d_BU_inspect_105 rfl 4 rfl ?_
      refine g_aload_n (pc := 106) d_BU_inspect_106 rfl 3 rfl ?_
      refine g_getI (pc := 107) (ci := 4) (f := 9) rfl d_BU_inspect_107 fl_BU_50 (by decide) (by assumption) ?_
      refine g_aload_n (pc := 110) d_BU_inspect_110 rfl 3 rfl ?_
      refine g_getI (pc := 111) (ci := 4) (f := 3) rfl d_BU_inspect_111 fl_BU_32 (by decide) (by assumption) ?_
      refine g_iadd (pc := 114) d_BU_inspect_114 ?_
      refine g_putI (pc := 115) (ci := 5) (f := 11) rfl d_BU_inspect_115 fl_BU_169 (fun q hq => by cases hq; exact rfl) rfl rfl (by decide) (by assumption) ?_
      refine g_aload_n (pc := 118) d_BU_inspect_118 rfl 4 rfl ?_
      refine g_getI (pc := 119) (ci := 5) (f := 9) rfl d_BU_inspect_119 fl_BU_163 (by decide) (by assumption) ?_
      refine g_iconst (pc := 122) (v := 3) d_BU_inspect_122 (by decide) ?_
      refine g_icmp_lt (pc := 123) (tgt := 131) d_BU_inspect_123 (by decide) (fun c_123 => ?_) (fun c_123 => ?_)
      · skip
        refine g_iload (pc := 131) d_BU_inspect_131 0 rfl ?_
        refine g_iret (pc := 133) d_BU_inspect_133 rfl ?_
        generalize hz : M_stamped (hI h a) (hI h b 9) = z at *
        generalize ht : M_tot (hI h b) (hI h (rA h b 12)) (hI h a) nw = t at *
        refine ⟨rfl, ?_⟩
        have cm : ∀ (h : Hp) (f g : Nat → Int32), sA (sA h b f) a g = sA (sA h a g) b f := fun _ _ _ => sA_comm hab
        simp only [sI_sA, sA_sA, hI_sA_same, u1_at, hI_sA_ne hab, hI_sA_ne hba, cm] at *
        simp [M_straight, u1_at] at *
        by_cases q1 : 0 < t <;> by_cases q3 : 3 ≤ hI h a 9 + 1 <;> by_cases q4 : 3 ≤ hI h a 9 <;> cases z
        all_goals first | (simp [M_visS, M_visC, u1_at, M_straight, q1, q3, q4]; done) | (exfalso; (try simp [bI] at *) <;> (try simp only [i_lt, i_le] at *) <;> omega)
      · skip
        refine g_aload_n (pc := 126) d_BU_inspect_126 rfl 4 rfl ?_
        refine g_iconst (pc := 127) (v := 0) d_BU_inspect_127 (by decide) ?_
        refine g_putI (pc := 128) (ci := 5) (f := 12) rfl d_BU_inspect_128 fl_BU_97 (fun q hq => by cases hq; exact rfl) (by rfl) (by rfl) (by decide) (by assumption) ?_
        refine g_iload (pc := 131) d_BU_inspect_131 0 rfl ?_
        refine g_iret (pc := 133) d_BU_inspect_133 rfl ?_
        generalize hz : M_stamped (hI h a) (hI h b 9) = z at *
        generalize ht : M_tot (hI h b) (hI h (rA h b 12)) (hI h a) nw = t at *
        refine ⟨rfl, ?_⟩
        have cm : ∀ (h : Hp) (f g : Nat → Int32), sA (sA h b f) a g = sA (sA h a g) b f := fun _ _ _ => sA_comm hab
        simp only [sI_sA, sA_sA, hI_sA_same, u1_at, hI_sA_ne hab, hI_sA_ne hba, cm] at *
        simp [M_straight, u1_at] at *
        by_cases q1 : 0 < t <;> by_cases q3 : 3 ≤ hI h a 9 + 1 <;> by_cases q4 : 3 ≤ hI h a 9 <;> cases z
        all_goals first | (simp [M_visS, M_visC, u1_at, M_straight, q1, q3, q4]; done) | (exfalso; (try simp [bI] at *) <;> (try simp only [i_lt, i_le] at *) <;> omega)
  · skip
    refine g_iload_n (pc := 50) d_BU_inspect_50 rfl 1 rfl ?_
    refine g_if_ne (pc := 51) (tgt := 97) d_BU_inspect_51 (by decide) (fun c_51 => ?_) (fun c_51 => ?_)
    · skip
      refine g_iload_n (pc := 97) d_BU_inspect_97 rfl 2 rfl ?_
      refine g_if_le (pc := 98) (tgt := 105) d_BU_inspect_98 (by decide) (fun c_98 => ?_) (fun c_98 => ?_)
      · skip
        refine g_aload_n (pc := 105) d_BU_inspect_105 rfl 4 rfl ?_
        refine g_aload_n (pc := 106) d_BU_inspect_106 rfl 3 rfl ?_
        refine g_getI (pc := 107) (ci := 4) (f := 9) rfl d_BU_inspect_107 fl_BU_50 (by decide) (by assumption) ?_
        refine g_aload_n (pc := 110) d_BU_inspect_110 rfl 3 rfl ?_
        refine g_getI (pc := 111) (ci := 4) (f := 3) rfl d_BU_inspect_111 fl_BU_32 (by decide) (by assumption) ?_
        refine g_iadd (pc := 114) d_BU_inspect_114 ?_
        refine g_putI (pc := 115) (ci := 5) (f := 11) rfl d_BU_inspect_115 fl_BU_169 (fun q hq => by cases hq; exact rfl) rfl rfl (by decide) (by assumption) ?_
        refine g_aload_n (pc := 118) d_BU_inspect_118 rfl 4 rfl ?_
        refine g_getI (pc := 119) (ci := 5) (f := 9) rfl d_BU_inspect_119 fl_BU_163 (by decide) (by assumption) ?_
        refine g_iconst (pc := 122) (v := 3) d_BU_inspect_122 (by decide) ?_
        refine g_icmp_lt (pc := 123) (tgt := 131) d_BU_inspect_123 (by decide) (fun c_123 => ?_) (fun c_123 => ?_)
        · skip
          refine g_iload (pc := 131) d_BU_inspect_131 0 rfl ?_
          refine g_iret (pc := 133) d_BU_inspect_133 rfl ?_
          generalize hz : M_stamped (hI h a) (hI h b 9) = z at *
          generalize ht : M_tot (hI h b) (hI h (rA h b 12)) (hI h a) nw = t at *
          refine ⟨rfl, ?_⟩
          have cm : ∀ (h : Hp) (f g : Nat → Int32), sA (sA h b f) a g = sA (sA h a g) b f := fun _ _ _ => sA_comm hab
          simp only [sI_sA, sA_sA, hI_sA_same, u1_at, hI_sA_ne hab, hI_sA_ne hba, cm] at *
          simp [M_straight, u1_at] at *
          by_cases q1 : 0 < t <;> by_cases q3 : 3 ≤ hI h a 9 + 1 <;> by_cases q4 : 3 ≤ hI h a 9 <;> cases z
          all_goals first | (simp [M_visS, M_visC, u1_at, M_straight, q1, q3, q4]; done) | (exfalso; (try simp [bI] at *) <;> (try simp only [i_lt, i_le] at *) <;> omega)
        · skip
          refine g_aload_n (pc := 126) d_BU_inspect_126 rfl 4 rfl ?_
          refine g_iconst (pc := 127) (v := 0) d_BU_inspect_127 (by decide) ?_
          refine g_putI (pc := 128) (ci := 5) (f := 12) rfl d_BU_inspect_128 fl_BU_97 (fun q hq => by cases hq; exact rfl) (by rfl) (by rfl) (by decide) (by assumption) ?_
          refine g_iload (pc := 131) d_BU_inspect_131 0 rfl ?_
          refine g_iret (pc := 133) d_BU_inspect_133 rfl ?_
          generalize hz : M_stamped (hI h a) (hI h b 9) = z at *
          generalize ht : M_tot (hI h b) (hI h (rA h b 12)) (hI h a) nw = t at *
          refine ⟨rfl, ?_⟩
          have cm : ∀ (h : Hp) (f g : Nat → Int32), sA (sA h b f) a g = sA (sA h a g) b f := fun _ _ _ => sA_comm hab
          simp only [sI_sA, sA_sA, hI_sA_same, u1_at, hI_sA_ne hab, hI_sA_ne hba, cm] at *
          simp [M_straight, u1_at] at *
          by_cases q1 : 0 < t <;> by_cases q3 : 3 ≤ hI h a 9 + 1 <;> by_cases q4 : 3 ≤ hI h a 9 <;> cases z
          all_goals first | (simp [M_visS, M_visC, u1_at, M_straight, q1, q3, q4]; done) | (exfalso; (try simp [bI] at *) <;> (try simp only [i_lt, i_le] at *) <;> omega)
      · skip
        refine g_aload_n (pc := 101) d_BU_inspect_101 rfl 4 rfl ?_
        refine g_cV0 (pc := 102) (ci := 5) (As := []) d_BU_inspect_102 rfl mv_SH_straighten st_BU_inspect_166 rfl rfl (by decide) rfl rfl (Nat.le_of_ble_eq_true rfl) (by assumption) (ct_SH_straighten (by assumption)) ?_
        refine g_aload_n (pc := 105) d_BU_inspect_105 rfl 4 rfl ?_
        refine g_aload_n (pc := 106) d_BU_inspect_106 rfl 3 rfl ?_
        refine g_getI (pc := 107) (ci := 4) (f := 9) rfl d_BU_inspect_107 fl_BU_50 (by decide) (by assumption) ?_
        refine g_aload_n (pc := 110) d_BU_inspect_110 rfl 3 rfl ?_
        refine g_getI (pc := 111) (ci := 4) (f := 3) rfl d_BU_inspect_111 fl_BU_32 (by decide) (by assumption) ?_
        refine g_iadd (pc := 114) d_BU_inspect_114 ?_
        refine g_putI (pc := 115) (ci := 5) (f := 11) rfl d_BU_inspect_115 fl_BU_169 (fun q hq => by cases hq; exact rfl) rfl rfl (by decide) (by assumption) ?_
        refine g_aload_n (pc := 118) d_BU_inspect_118 rfl 4 rfl ?_
        refine g_getI (pc := 119) (ci := 5) (f := 9) rfl d_BU_inspect_119 fl_BU_163 (by decide) (by assumption) ?_
        refine g_iconst (pc := 122) (v := 3) d_BU_inspect_122 (by decide) ?_
        refine g_icmp_lt (pc := 123) (tgt := 131) d_BU_inspect_123 (by decide) (fun c_123 => ?_) (fun c_123 => ?_)
        · skip
          refine g_iload (pc := 131) d_BU_inspect_131 0 rfl ?_
          refine g_iret (pc := 133) d_BU_inspect_133 rfl ?_
          generalize hz : M_stamped (hI h a) (hI h b 9) = z at *
          generalize ht : M_tot (hI h b) (hI h (rA h b 12)) (hI h a) nw = t at *
          refine ⟨rfl, ?_⟩
          have cm : ∀ (h : Hp) (f g : Nat → Int32), sA (sA h b f) a g = sA (sA h a g) b f := fun _ _ _ => sA_comm hab
          simp only [sI_sA, sA_sA, hI_sA_same, u1_at, hI_sA_ne hab, hI_sA_ne hba, cm] at *
          simp [M_straight, u1_at] at *
          by_cases q1 : 0 < t <;> by_cases q3 : 3 ≤ hI h a 9 + 1 <;> by_cases q4 : 3 ≤ hI h a 9 <;> cases z
          all_goals first | (simp [M_visS, M_visC, u1_at, M_straight, q1, q3, q4]; done) | (exfalso; (try simp [bI] at *) <;> (try simp only [i_lt, i_le] at *) <;> omega)
        · skip
          refine g_aload_n (pc := 126) d_BU_inspect_126 rfl 4 rfl ?_
          refine g_iconst (pc := 127) (v := 0) d_BU_inspect_127 (by decide) ?_
          refine g_putI (pc := 128) (ci := 5) (f := 12) rfl d_BU_inspect_128 fl_BU_97 (fun q hq => by cases hq; exact rfl) (by rfl) (by rfl) (by decide) (by assumption) ?_
          refine g_iload (pc := 131) d_BU_inspect_131 0 rfl ?_
          refine g_iret (pc := 133) d_BU_inspect_133 rfl ?_
          generalize hz : M_stamped (hI h a) (hI h b 9) = z at *
          generalize ht : M_tot (hI h b) (hI h (rA h b 12)) (hI h a) nw = t at *
          refine ⟨rfl, ?_⟩
          have cm : ∀ (h : Hp) (f g : Nat → Int32), sA (sA h b f) a g = sA (sA h a g) b f := fun _ _ _ => sA_comm hab
          simp only [sI_sA, sA_sA, hI_sA_same, u1_at, hI_sA_ne hab, hI_sA_ne hba, cm] at *
          simp [M_straight, u1_at] at *
          by_cases q1 : 0 < t <;> by_cases q3 : 3 ≤ hI h a 9 + 1 <;> by_cases q4 : 3 ≤ hI h a 9 <;> cases z
          all_goals first | (simp [M_visS, M_visC, u1_at, M_straight, q1, q3, q4]; done) | (exfalso; (try simp [bI] at *) <;> (try simp only [i_lt, i_le] at *) <;> omega)
    · skip
      refine g_aload_n (pc := 54) d_BU_inspect_54 rfl 4 rfl ?_
      refine g_dup (pc := 55) d_BU_inspect_55 rfl ?_
      refine g_getI (pc := 56) (ci := 5) (f := 0) rfl d_BU_inspect_56 fl_BU_129 (by decide) (by assumption) ?_
      refine g_iload (pc := 59) d_BU_inspect_59 0 rfl ?_
      refine g_isub (pc := 61) d_BU_inspect_61 ?_
      refine g_putI (pc := 62) (ci := 5) (f := 0) rfl d_BU_inspect_62 fl_BU_129 (fun q hq => by cases hq; exact rfl) rfl rfl (by decide) (by assumption) ?_
      refine g_aload_n (pc := 65) d_BU_inspect_65 rfl 4 rfl ?_
      refine g_dup (pc := 66) d_BU_inspect_66 rfl ?_
      refine g_getI (pc := 67) (ci := 5) (f := 13) rfl d_BU_inspect_67 fl_BU_160 (by decide) (by assumption) ?_
      refine g_iload (pc := 70) d_BU_inspect_70 0 rfl ?_
      refine g_iadd (pc := 72) d_BU_inspect_72 ?_
      refine g_putI (pc := 73) (ci := 5) (f := 13) rfl d_BU_inspect_73 fl_BU_160 (fun q hq => by cases hq; exact rfl) rfl rfl (by decide) (by assumption) ?_
      refine g_aload_n (pc := 76) d_BU_inspect_76 rfl 3 rfl ?_
      refine g_dup (pc := 77) d_BU_inspect_77 rfl ?_
      refine g_getI (pc := 78) (ci := 4) (f := 10) rfl d_BU_inspect_78 fl_BU_44 (by decide) (by assumption) ?_
      refine g_iload (pc := 81) d_BU_inspect_81 0 rfl ?_
      refine g_iadd (pc := 83) d_BU_inspect_83 ?_
      refine g_putI (pc := 84) (ci := 4) (f := 10) rfl d_BU_inspect_84 fl_BU_44 (fun q hq => by cases hq; exact rfl) rfl rfl (by decide) (by assumption) ?_
      refine g_aload_n (pc := 87) d_BU_inspect_87 rfl 4 rfl ?_
      refine g_dup (pc := 88) d_BU_inspect_88 rfl ?_
      refine g_getI (pc := 89) (ci := 5) (f := 9) rfl d_BU_inspect_89 fl_BU_163 (by decide) (by assumption) ?_
      refine g_iconst (pc := 92) (v := 1) d_BU_inspect_92 (by decide) ?_
      refine g_iadd (pc := 93) d_BU_inspect_93 ?_
      refine g_putI (pc := 94) (ci := 5) (f := 9) rfl d_BU_inspect_94 fl_BU_163 (fun q hq => by cases hq; exact rfl) rfl rfl (by decide) (by assumption) ?_
      refine g_iload_n (pc := 97) d_BU_inspect_97 rfl 2 rfl ?_
      refine g_if_le (pc := 98) (tgt := 105) d_BU_inspect_98 (by decide) (fun c_98 => ?_) (fun c_98 => ?_)
      · skip
        refine g_aload_n (pc := 105) d_BU_inspect_105 rfl 4 rfl ?_
        refine g_aload_n (pc := 106) d_BU_inspect_106 rfl 3 rfl ?_
        refine g_getI (pc := 107) (ci := 4) (f := 9) rfl d_BU_inspect_107 fl_BU_50 (by decide) (by assumption) ?_
        refine g_aload_n (pc := 110) d_BU_inspect_110 rfl 3 rfl ?_
        refine g_getI (pc := 111) (ci := 4) (f := 3) rfl d_BU_inspect_111 fl_BU_32 (by decide) (by assumption) ?_
        refine g_iadd (pc := 114) d_BU_inspect_114 ?_
        refine g_putI (pc := 115) (ci := 5) (f := 11) rfl d_BU_inspect_115 fl_BU_169 (fun q hq => by cases hq; exact rfl) rfl rfl (by decide) (by assumption) ?_
        refine g_aload_n (pc := 118) d_BU_inspect_118 rfl 4 rfl ?_
        refine g_getI (pc := 119) (ci := 5) (f := 9) rfl d_BU_inspect_119 fl_BU_163 (by decide) (by assumption) ?_
        refine g_iconst (pc := 122) (v := 3) d_BU_inspect_122 (by decide) ?_
        refine g_icmp_lt (pc := 123) (tgt := 131) d_BU_inspect_123 (by decide) (fun c_123 => ?_) (fun c_123 => ?_)
        · skip
          refine g_iload (pc := 131) d_BU_inspect_131 0 rfl ?_
          refine g_iret (pc := 133) d_BU_inspect_133 rfl ?_
          generalize hz : M_stamped (hI h a) (hI h b 9) = z at *
          generalize ht : M_tot (hI h b) (hI h (rA h b 12)) (hI h a) nw = t at *
          refine ⟨rfl, ?_⟩
          have cm : ∀ (h : Hp) (f g : Nat → Int32), sA (sA h b f) a g = sA (sA h a g) b f := fun _ _ _ => sA_comm hab
          simp only [sI_sA, sA_sA, hI_sA_same, u1_at, hI_sA_ne hab, hI_sA_ne hba, cm] at *
          simp [M_straight, u1_at] at *
          by_cases q1 : 0 < t <;> by_cases q3 : 3 ≤ hI h a 9 + 1 <;> by_cases q4 : 3 ≤ hI h a 9 <;> cases z
          all_goals first | (simp [M_visS, M_visC, u1_at, M_straight, q1, q3, q4]; done) | (exfalso; (try simp [bI] at *) <;> (try simp only [i_lt, i_le] at *) <;> omega)
        · skip
          refine g_aload_n (pc := 126) d_BU_inspect_126 rfl 4 rfl ?_
          refine g_iconst (pc := 127) (v := 0) d_BU_inspect_127 (by decide) ?_
          refine g_putI (pc := 128) (ci := 5) (f := 12) rfl d_BU_inspect_128 fl_BU_97 (fun q hq => by cases hq; exact rfl) (by rfl) (by rfl) (by decide) (by assumption) ?_
          refine g_iload (pc := 131) d_BU_inspect_131 0 rfl ?_
          refine g_iret (pc := 133) d_BU_inspect_133 rfl ?_
          generalize hz : M_stamped (hI h a) (hI h b 9) = z at *
          generalize ht : M_tot (hI h b) (hI h (rA h b 12)) (hI h a) nw = t at *
          refine ⟨rfl, ?_⟩
          have cm : ∀ (h : Hp) (f g : Nat → Int32), sA (sA h b f) a g = sA (sA h a g) b f := fun _ _ _ => sA_comm hab
          simp only [sI_sA, sA_sA, hI_sA_same, u1_at, hI_sA_ne hab, hI_sA_ne hba, cm] at *
          simp [M_straight, u1_at] at *
          by_cases q1 : 0 < t <;> by_cases q3 : 3 ≤ hI h a 9 + 1 <;> by_cases q4 : 3 ≤ hI h a 9 <;> cases z
          all_goals first | (simp [M_visS, M_visC, u1_at, M_straight, q1, q3, q4]; done) | (exfalso; (try simp [bI] at *) <;> (try simp only [i_lt, i_le] at *) <;> omega)
      · skip
        refine g_aload_n (pc := 101) d_BU_inspect_101 rfl 4 rfl ?_
        refine g_cV0 (pc := 102) (ci := 5) (As := []) d_BU_inspect_102 rfl mv_SH_straighten st_BU_inspect_166 rfl rfl (by decide) rfl rfl (Nat.le_of_ble_eq_true rfl) (by assumption) (ct_SH_straighten (by assumption)) ?_
        refine g_aload_n (pc := 105) d_BU_inspect_105 rfl 4 rfl ?_
        refine g_aload_n (pc := 106) d_BU_inspect_106 rfl 3 rfl ?_
        refine g_getI (pc := 107) (ci := 4) (f := 9) rfl d_BU_inspect_107 fl_BU_50 (by decide) (by assumption) ?_
        refine g_aload_n (pc := 110) d_BU_inspect_110 rfl 3 rfl ?_
        refine g_getI (pc := 111) (ci := 4) (f := 3) rfl d_BU_inspect_111 fl_BU_32 (by decide) (by assumption) ?_
        refine g_iadd (pc := 114) d_BU_inspect_114 ?_
        refine g_putI (pc := 115) (ci := 5) (f := 11) rfl d_BU_inspect_115 fl_BU_169 (fun q hq => by cases hq; exact rfl) rfl rfl (by decide) (by assumption) ?_
        refine g_aload_n (pc := 118) d_BU_inspect_118 rfl 4 rfl ?_
        refine g_getI (pc := 119) (ci := 5) (f := 9) rfl d_BU_inspect_119 fl_BU_163 (by decide) (by assumption) ?_
        refine g_iconst (pc := 122) (v := 3) d_BU_inspect_122 (by decide) ?_
        refine g_icmp_lt (pc := 123) (tgt := 131) d_BU_inspect_123 (by decide) (fun c_123 => ?_) (fun c_123 => ?_)
        · skip
          refine g_iload (pc := 131) d_BU_inspect_131 0 rfl ?_
          refine g_iret (pc := 133) d_BU_inspect_133 rfl ?_
          generalize hz : M_stamped (hI h a) (hI h b 9) = z at *
          generalize ht : M_tot (hI h b) (hI h (rA h b 12)) (hI h a) nw = t at *
          refine ⟨rfl, ?_⟩
          have cm : ∀ (h : Hp) (f g : Nat → Int32), sA (sA h b f) a g = sA (sA h a g) b f := fun _ _ _ => sA_comm hab
          simp only [sI_sA, sA_sA, hI_sA_same, u1_at, hI_sA_ne hab, hI_sA_ne hba, cm] at *
          simp [M_straight, u1_at] at *
          by_cases q1 : 0 < t <;> by_cases q3 : 3 ≤ hI h a 9 + 1 <;> by_cases q4 : 3 ≤ hI h a 9 <;> cases z
          all_goals first | (simp [M_visS, M_visC, u1_at, M_straight, q1, q3, q4]; done) | (exfalso; (try simp [bI] at *) <;> (try simp only [i_lt, i_le] at *) <;> omega)
        · skip
          refine g_aload_n (pc := 126) d_BU_inspect_126 rfl 4 rfl ?_
          refine g_iconst (pc := 127) (v := 0) d_BU_inspect_127 (by decide) ?_
          refine g_putI (pc := 128) (ci := 5) (f := 12) rfl d_BU_inspect_128 fl_BU_97 (fun q hq => by cases hq; exact rfl) (by rfl) (by rfl) (by decide) (by assumption) ?_
          refine g_iload (pc := 131) d_BU_inspect_131 0 rfl ?_
          refine g_iret (pc := 133) d_BU_inspect_133 rfl ?_
          generalize hz : M_stamped (hI h a) (hI h b 9) = z at *
          generalize ht : M_tot (hI h b) (hI h (rA h b 12)) (hI h a) nw = t at *
          refine ⟨rfl, ?_⟩
          have cm : ∀ (h : Hp) (f g : Nat → Int32), sA (sA h b f) a g = sA (sA h a g) b f := fun _ _ _ => sA_comm hab
          simp only [sI_sA, sA_sA, hI_sA_same, u1_at, hI_sA_ne hab, hI_sA_ne hba, cm] at *
          simp [M_straight, u1_at] at *
          by_cases q1 : 0 < t <;> by_cases q3 : 3 ≤ hI h a 9 + 1 <;> by_cases q4 : 3 ≤ hI h a 9 <;> cases z
          all_goals first | (simp [M_visS, M_visC, u1_at, M_straight, q1, q3, q4]; done) | (exfalso; (try simp [bI] at *) <;> (try simp only [i_lt, i_le] at *) <;> omega)
