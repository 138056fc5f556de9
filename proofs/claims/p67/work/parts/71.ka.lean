/-! THE LAW: its code -/
theorem d_LAW_0 : decode (mC m_LAW) 0 = .ok (.new 8, 3) := by decide +kernel
theorem d_LAW_3 : decode (mC m_LAW) 3 = .ok (.dup, 1) := by decide +kernel
theorem d_LAW_4 : decode (mC m_LAW) 4 = .ok (.invokespecial 331, 3) := by decide +kernel
theorem d_LAW_7 : decode (mC m_LAW) 7 = .ok (.astore_n 1, 1) := by decide +kernel
theorem d_LAW_8 : decode (mC m_LAW) 8 = .ok (.aload_n 1, 1) := by decide +kernel
theorem d_LAW_9 : decode (mC m_LAW) 9 = .ok (.aload_n 0, 1) := by decide +kernel
theorem d_LAW_10 : decode (mC m_LAW) 10 = .ok (.invokestatic 332, 3) := by decide +kernel
theorem d_LAW_13 : decode (mC m_LAW) 13 = .ok (.astore_n 2, 1) := by decide +kernel
theorem d_LAW_14 : decode (mC m_LAW) 14 = .ok (.aload_n 2, 1) := by decide +kernel
theorem d_LAW_15 : decode (mC m_LAW) 15 = .ok (.ifnonnull 5, 3) := by decide +kernel
theorem d_LAW_18 : decode (mC m_LAW) 18 = .ok (.iconst 0, 1) := by decide +kernel
theorem d_LAW_19 : decode (mC m_LAW) 19 = .ok (.ireturn, 1) := by decide +kernel
theorem d_LAW_20 : decode (mC m_LAW) 20 = .ok (.iconst 0, 1) := by decide +kernel
theorem d_LAW_21 : decode (mC m_LAW) 21 = .ok (.istore_n 3, 1) := by decide +kernel
theorem d_LAW_22 : decode (mC m_LAW) 22 = .ok (.iload_n 3, 1) := by decide +kernel
theorem d_LAW_23 : decode (mC m_LAW) 23 = .ok (.bipush 40, 2) := by decide +kernel
theorem d_LAW_25 : decode (mC m_LAW) 25 = .ok (.if_icmp .ge 45, 3) := by decide +kernel
theorem d_LAW_28 : decode (mC m_LAW) 28 = .ok (.aload_n 1, 1) := by decide +kernel
theorem d_LAW_29 : decode (mC m_LAW) 29 = .ok (.aload_n 2, 1) := by decide +kernel
theorem d_LAW_30 : decode (mC m_LAW) 30 = .ok (.aload_n 0, 1) := by decide +kernel
theorem d_LAW_31 : decode (mC m_LAW) 31 = .ok (.bipush 67, 2) := by decide +kernel
theorem d_LAW_33 : decode (mC m_LAW) 33 = .ok (.iconst 3, 1) := by decide +kernel
theorem d_LAW_34 : decode (mC m_LAW) 34 = .ok (.iload_n 3, 1) := by decide +kernel
theorem d_LAW_35 : decode (mC m_LAW) 35 = .ok (.imul, 1) := by decide +kernel
theorem d_LAW_36 : decode (mC m_LAW) 36 = .ok (.iadd, 1) := by decide +kernel
theorem d_LAW_37 : decode (mC m_LAW) 37 = .ok (.invokestatic 336, 3) := by decide +kernel
theorem d_LAW_40 : decode (mC m_LAW) 40 = .ok (.ifCond .ne 5, 3) := by decide +kernel
theorem d_LAW_43 : decode (mC m_LAW) 43 = .ok (.iconst 0, 1) := by decide +kernel
theorem d_LAW_44 : decode (mC m_LAW) 44 = .ok (.ireturn, 1) := by decide +kernel
theorem d_LAW_45 : decode (mC m_LAW) 45 = .ok (.iload_n 3, 1) := by decide +kernel
theorem d_LAW_46 : decode (mC m_LAW) 46 = .ok (.bipush 10, 2) := by decide +kernel
theorem d_LAW_48 : decode (mC m_LAW) 48 = .ok (.irem, 1) := by decide +kernel
theorem d_LAW_49 : decode (mC m_LAW) 49 = .ok (.bipush 9, 2) := by decide +kernel
theorem d_LAW_51 : decode (mC m_LAW) 51 = .ok (.if_icmp .ne 13, 3) := by decide +kernel
theorem d_LAW_54 : decode (mC m_LAW) 54 = .ok (.aload_n 1, 1) := by decide +kernel
theorem d_LAW_55 : decode (mC m_LAW) 55 = .ok (.aload_n 2, 1) := by decide +kernel
theorem d_LAW_56 : decode (mC m_LAW) 56 = .ok (.invokestatic 340, 3) := by decide +kernel
theorem d_LAW_59 : decode (mC m_LAW) 59 = .ok (.ifCond .ne 5, 3) := by decide +kernel
theorem d_LAW_62 : decode (mC m_LAW) 62 = .ok (.iconst 0, 1) := by decide +kernel
theorem d_LAW_63 : decode (mC m_LAW) 63 = .ok (.ireturn, 1) := by decide +kernel
theorem d_LAW_64 : decode (mC m_LAW) 64 = .ok (.iinc 3 1, 3) := by decide +kernel
theorem d_LAW_67 : decode (mC m_LAW) 67 = .ok (.goto (-45), 3) := by decide +kernel
theorem d_LAW_70 : decode (mC m_LAW) 70 = .ok (.aload_n 1, 1) := by decide +kernel
theorem d_LAW_71 : decode (mC m_LAW) 71 = .ok (.aload_n 2, 1) := by decide +kernel
theorem d_LAW_72 : decode (mC m_LAW) 72 = .ok (.aload_n 0, 1) := by decide +kernel
theorem d_LAW_73 : decode (mC m_LAW) 73 = .ok (.sipush 190, 3) := by decide +kernel
theorem d_LAW_76 : decode (mC m_LAW) 76 = .ok (.aload_n 2, 1) := by decide +kernel
theorem d_LAW_77 : decode (mC m_LAW) 77 = .ok (.getfield 45, 3) := by decide +kernel
theorem d_LAW_80 : decode (mC m_LAW) 80 = .ok (.arraylength, 1) := by decide +kernel
theorem d_LAW_81 : decode (mC m_LAW) 81 = .ok (.invokestatic 34, 3) := by decide +kernel
theorem d_LAW_84 : decode (mC m_LAW) 84 = .ok (.invokestatic 343, 3) := by decide +kernel
theorem d_LAW_87 : decode (mC m_LAW) 87 = .ok (.ifCond .eq 15, 3) := by decide +kernel
theorem d_LAW_90 : decode (mC m_LAW) 90 = .ok (.aload_n 1, 1) := by decide +kernel
theorem d_LAW_91 : decode (mC m_LAW) 91 = .ok (.aload_n 2, 1) := by decide +kernel
theorem d_LAW_92 : decode (mC m_LAW) 92 = .ok (.invokestatic 340, 3) := by decide +kernel
theorem d_LAW_95 : decode (mC m_LAW) 95 = .ok (.ifCond .eq 7, 3) := by decide +kernel
theorem d_LAW_98 : decode (mC m_LAW) 98 = .ok (.iconst 1, 1) := by decide +kernel
theorem d_LAW_99 : decode (mC m_LAW) 99 = .ok (.goto 4, 3) := by decide +kernel
theorem d_LAW_102 : decode (mC m_LAW) 102 = .ok (.iconst 0, 1) := by decide +kernel
theorem d_LAW_103 : decode (mC m_LAW) 103 = .ok (.ireturn, 1) := by decide +kernel
theorem d_LW_pick_0 : decode (mC m_LW_pick) 0 = .ok (.aload_n 0, 1) := by decide +kernel
theorem d_LW_pick_1 : decode (mC m_LW_pick) 1 = .ok (.arraylength, 1) := by decide +kernel
theorem d_LW_pick_2 : decode (mC m_LW_pick) 2 = .ok (.ifCond .ne 9, 3) := by decide +kernel
theorem d_LW_pick_5 : decode (mC m_LW_pick) 5 = .ok (.iload_n 1, 1) := by decide +kernel
theorem d_LW_pick_6 : decode (mC m_LW_pick) 6 = .ok (.iload_n 2, 1) := by decide +kernel
theorem d_LW_pick_7 : decode (mC m_LW_pick) 7 = .ok (.irem, 1) := by decide +kernel
theorem d_LW_pick_8 : decode (mC m_LW_pick) 8 = .ok (.goto 25, 3) := by decide +kernel
theorem d_LW_pick_11 : decode (mC m_LW_pick) 11 = .ok (.aload_n 0, 1) := by decide +kernel
theorem d_LW_pick_12 : decode (mC m_LW_pick) 12 = .ok (.iload_n 1, 1) := by decide +kernel
theorem d_LW_pick_13 : decode (mC m_LW_pick) 13 = .ok (.aload_n 0, 1) := by decide +kernel
theorem d_LW_pick_14 : decode (mC m_LW_pick) 14 = .ok (.arraylength, 1) := by decide +kernel
theorem d_LW_pick_15 : decode (mC m_LW_pick) 15 = .ok (.irem, 1) := by decide +kernel
theorem d_LW_pick_16 : decode (mC m_LW_pick) 16 = .ok (.iaload, 1) := by decide +kernel
theorem d_LW_pick_17 : decode (mC m_LW_pick) 17 = .ok (.iload_n 1, 1) := by decide +kernel
theorem d_LW_pick_18 : decode (mC m_LW_pick) 18 = .ok (.aload_n 0, 1) := by decide +kernel
theorem d_LW_pick_19 : decode (mC m_LW_pick) 19 = .ok (.arraylength, 1) := by decide +kernel
theorem d_LW_pick_20 : decode (mC m_LW_pick) 20 = .ok (.idiv, 1) := by decide +kernel
theorem d_LW_pick_21 : decode (mC m_LW_pick) 21 = .ok (.bipush 9, 2) := by decide +kernel
theorem d_LW_pick_23 : decode (mC m_LW_pick) 23 = .ok (.irem, 1) := by decide +kernel
theorem d_LW_pick_24 : decode (mC m_LW_pick) 24 = .ok (.iconst 3, 1) := by decide +kernel
theorem d_LW_pick_25 : decode (mC m_LW_pick) 25 = .ok (.imul, 1) := by decide +kernel
theorem d_LW_pick_26 : decode (mC m_LW_pick) 26 = .ok (.ishr, 1) := by decide +kernel
theorem d_LW_pick_27 : decode (mC m_LW_pick) 27 = .ok (.sipush 4095, 3) := by decide +kernel
theorem d_LW_pick_30 : decode (mC m_LW_pick) 30 = .ok (.iand, 1) := by decide +kernel
theorem d_LW_pick_31 : decode (mC m_LW_pick) 31 = .ok (.iload_n 2, 1) := by decide +kernel
theorem d_LW_pick_32 : decode (mC m_LW_pick) 32 = .ok (.irem, 1) := by decide +kernel
theorem d_LW_pick_33 : decode (mC m_LW_pick) 33 = .ok (.ireturn, 1) := by decide +kernel
theorem d_LB_init_0 : decode (mC m_LB_init) 0 = .ok (.aload_n 0, 1) := by decide +kernel
theorem d_LB_init_1 : decode (mC m_LB_init) 1 = .ok (.invokespecial 1, 3) := by decide +kernel
theorem d_LB_init_4 : decode (mC m_LB_init) 4 = .ok (.aload_n 0, 1) := by decide +kernel
theorem d_LB_init_5 : decode (mC m_LB_init) 5 = .ok (.bipush 10, 2) := by decide +kernel
theorem d_LB_init_7 : decode (mC m_LB_init) 7 = .ok (.newarray .int, 2) := by decide +kernel
theorem d_LB_init_9 : decode (mC m_LB_init) 9 = .ok (.putfield 7, 3) := by decide +kernel
theorem d_LB_init_12 : decode (mC m_LB_init) 12 = .ok (.return_, 1) := by decide +kernel
theorem d_TW_init_0 : decode (mC m_TW_init) 0 = .ok (.aload_n 0, 1) := by decide +kernel
theorem d_TW_init_1 : decode (mC m_TW_init) 1 = .ok (.invokespecial 1, 3) := by decide +kernel
theorem d_TW_init_4 : decode (mC m_TW_init) 4 = .ok (.aload_n 0, 1) := by decide +kernel
theorem d_TW_init_5 : decode (mC m_TW_init) 5 = .ok (.iconst (-1), 1) := by decide +kernel
theorem d_TW_init_6 : decode (mC m_TW_init) 6 = .ok (.putfield 7, 3) := by decide +kernel
theorem d_TW_init_9 : decode (mC m_TW_init) 9 = .ok (.aload_n 0, 1) := by decide +kernel
theorem d_TW_init_10 : decode (mC m_TW_init) 10 = .ok (.iconst 1, 1) := by decide +kernel
theorem d_TW_init_11 : decode (mC m_TW_init) 11 = .ok (.putfield 13, 3) := by decide +kernel
theorem d_TW_init_14 : decode (mC m_TW_init) 14 = .ok (.return_, 1) := by decide +kernel
theorem d_LW_input_0 : decode (mC m_LW_input) 0 = .ok (.aload_n 0, 1) := by decide +kernel
theorem d_LW_input_1 : decode (mC m_LW_input) 1 = .ok (.iconst 0, 1) := by decide +kernel
theorem d_LW_input_2 : decode (mC m_LW_input) 2 = .ok (.invokevirtual 7, 3) := by decide +kernel
theorem d_LW_input_5 : decode (mC m_LW_input) 5 = .ok (.pop, 1) := by decide +kernel
theorem d_LW_input_6 : decode (mC m_LW_input) 6 = .ok (.iconst 0, 1) := by decide +kernel
theorem d_LW_input_7 : decode (mC m_LW_input) 7 = .ok (.istore_n 2, 1) := by decide +kernel
theorem d_LW_input_8 : decode (mC m_LW_input) 8 = .ok (.iload_n 2, 1) := by decide +kernel
theorem d_LW_input_9 : decode (mC m_LW_input) 9 = .ok (.aload_n 1, 1) := by decide +kernel
theorem d_LW_input_10 : decode (mC m_LW_input) 10 = .ok (.invokevirtual 13, 3) := by decide +kernel
theorem d_LW_input_13 : decode (mC m_LW_input) 13 = .ok (.if_icmp .ge 88, 3) := by decide +kernel
theorem d_LW_input_16 : decode (mC m_LW_input) 16 = .ok (.iconst 5, 1) := by decide +kernel
theorem d_LW_input_17 : decode (mC m_LW_input) 17 = .ok (.newarray .int, 2) := by decide +kernel
theorem d_LW_input_19 : decode (mC m_LW_input) 19 = .ok (.astore_n 3, 1) := by decide +kernel
theorem d_LW_input_20 : decode (mC m_LW_input) 20 = .ok (.iconst 0, 1) := by decide +kernel
theorem d_LW_input_21 : decode (mC m_LW_input) 21 = .ok (.istore 4, 2) := by decide +kernel
theorem d_LW_input_23 : decode (mC m_LW_input) 23 = .ok (.iload 4, 2) := by decide +kernel
theorem d_LW_input_25 : decode (mC m_LW_input) 25 = .ok (.bipush 20, 2) := by decide +kernel
theorem d_LW_input_27 : decode (mC m_LW_input) 27 = .ok (.if_icmp .ge 48, 3) := by decide +kernel
theorem d_LW_input_30 : decode (mC m_LW_input) 30 = .ok (.iload_n 2, 1) := by decide +kernel
theorem d_LW_input_31 : decode (mC m_LW_input) 31 = .ok (.iload 4, 2) := by decide +kernel
theorem d_LW_input_33 : decode (mC m_LW_input) 33 = .ok (.iadd, 1) := by decide +kernel
theorem d_LW_input_34 : decode (mC m_LW_input) 34 = .ok (.aload_n 1, 1) := by decide +kernel
theorem d_LW_input_35 : decode (mC m_LW_input) 35 = .ok (.invokevirtual 13, 3) := by decide +kernel
theorem d_LW_input_38 : decode (mC m_LW_input) 38 = .ok (.if_icmp .ge 37, 3) := by decide +kernel
theorem d_LW_input_41 : decode (mC m_LW_input) 41 = .ok (.aload_n 3, 1) := by decide +kernel
theorem d_LW_input_42 : decode (mC m_LW_input) 42 = .ok (.iload 4, 2) := by decide +kernel
theorem d_LW_input_44 : decode (mC m_LW_input) 44 = .ok (.iconst 4, 1) := by decide +kernel
theorem d_LW_input_45 : decode (mC m_LW_input) 45 = .ok (.idiv, 1) := by decide +kernel
theorem d_LW_input_46 : decode (mC m_LW_input) 46 = .ok (.dup2, 1) := by decide +kernel
theorem d_LW_input_47 : decode (mC m_LW_input) 47 = .ok (.iaload, 1) := by decide +kernel
theorem d_LW_input_48 : decode (mC m_LW_input) 48 = .ok (.aload_n 1, 1) := by decide +kernel
theorem d_LW_input_49 : decode (mC m_LW_input) 49 = .ok (.iload_n 2, 1) := by decide +kernel
theorem d_LW_input_50 : decode (mC m_LW_input) 50 = .ok (.iload 4, 2) := by decide +kernel
theorem d_LW_input_52 : decode (mC m_LW_input) 52 = .ok (.iadd, 1) := by decide +kernel
theorem d_LW_input_53 : decode (mC m_LW_input) 53 = .ok (.invokevirtual 19, 3) := by decide +kernel
theorem d_LW_input_56 : decode (mC m_LW_input) 56 = .ok (.bipush 24, 2) := by decide +kernel
theorem d_LW_input_58 : decode (mC m_LW_input) 58 = .ok (.bipush 8, 2) := by decide +kernel
theorem d_LW_input_60 : decode (mC m_LW_input) 60 = .ok (.iload 4, 2) := by decide +kernel
theorem d_LW_input_62 : decode (mC m_LW_input) 62 = .ok (.iconst 4, 1) := by decide +kernel
theorem d_LW_input_63 : decode (mC m_LW_input) 63 = .ok (.irem, 1) := by decide +kernel
theorem d_LW_input_64 : decode (mC m_LW_input) 64 = .ok (.imul, 1) := by decide +kernel
theorem d_LW_input_65 : decode (mC m_LW_input) 65 = .ok (.isub, 1) := by decide +kernel
theorem d_LW_input_66 : decode (mC m_LW_input) 66 = .ok (.ishl, 1) := by decide +kernel
theorem d_LW_input_67 : decode (mC m_LW_input) 67 = .ok (.ior, 1) := by decide +kernel
theorem d_LW_input_68 : decode (mC m_LW_input) 68 = .ok (.iastore, 1) := by decide +kernel
theorem d_LW_input_69 : decode (mC m_LW_input) 69 = .ok (.iinc 4 1, 3) := by decide +kernel
theorem d_LW_input_72 : decode (mC m_LW_input) 72 = .ok (.goto (-49), 3) := by decide +kernel
theorem d_LW_input_75 : decode (mC m_LW_input) 75 = .ok (.aload_n 0, 1) := by decide +kernel
theorem d_LW_input_76 : decode (mC m_LW_input) 76 = .ok (.aload_n 3, 1) := by decide +kernel
theorem d_LW_input_77 : decode (mC m_LW_input) 77 = .ok (.iconst 0, 1) := by decide +kernel
theorem d_LW_input_78 : decode (mC m_LW_input) 78 = .ok (.iaload, 1) := by decide +kernel
theorem d_LW_input_79 : decode (mC m_LW_input) 79 = .ok (.aload_n 3, 1) := by decide +kernel
theorem d_LW_input_80 : decode (mC m_LW_input) 80 = .ok (.iconst 1, 1) := by decide +kernel
theorem d_LW_input_81 : decode (mC m_LW_input) 81 = .ok (.iaload, 1) := by decide +kernel
theorem d_LW_input_82 : decode (mC m_LW_input) 82 = .ok (.aload_n 3, 1) := by decide +kernel
theorem d_LW_input_83 : decode (mC m_LW_input) 83 = .ok (.iconst 2, 1) := by decide +kernel
theorem d_LW_input_84 : decode (mC m_LW_input) 84 = .ok (.iaload, 1) := by decide +kernel
theorem d_LW_input_85 : decode (mC m_LW_input) 85 = .ok (.aload_n 3, 1) := by decide +kernel
theorem d_LW_input_86 : decode (mC m_LW_input) 86 = .ok (.iconst 3, 1) := by decide +kernel
theorem d_LW_input_87 : decode (mC m_LW_input) 87 = .ok (.iaload, 1) := by decide +kernel
theorem d_LW_input_88 : decode (mC m_LW_input) 88 = .ok (.aload_n 3, 1) := by decide +kernel
theorem d_LW_input_89 : decode (mC m_LW_input) 89 = .ok (.iconst 4, 1) := by decide +kernel
theorem d_LW_input_90 : decode (mC m_LW_input) 90 = .ok (.iaload, 1) := by decide +kernel
theorem d_LW_input_91 : decode (mC m_LW_input) 91 = .ok (.invokevirtual 23, 3) := by decide +kernel
theorem d_LW_input_94 : decode (mC m_LW_input) 94 = .ok (.pop, 1) := by decide +kernel
theorem d_LW_input_95 : decode (mC m_LW_input) 95 = .ok (.iinc 2 20, 3) := by decide +kernel
theorem d_LW_input_98 : decode (mC m_LW_input) 98 = .ok (.goto (-90), 3) := by decide +kernel
theorem d_LW_input_101 : decode (mC m_LW_input) 101 = .ok (.aload_n 0, 1) := by decide +kernel
theorem d_LW_input_102 : decode (mC m_LW_input) 102 = .ok (.aload_n 1, 1) := by decide +kernel
theorem d_LW_input_103 : decode (mC m_LW_input) 103 = .ok (.invokevirtual 13, 3) := by decide +kernel
theorem d_LW_input_106 : decode (mC m_LW_input) 106 = .ok (.invokevirtual 7, 3) := by decide +kernel
theorem d_LW_input_109 : decode (mC m_LW_input) 109 = .ok (.pop, 1) := by decide +kernel
theorem d_LW_input_110 : decode (mC m_LW_input) 110 = .ok (.return_, 1) := by decide +kernel
theorem d_LW_total_0 : decode (mC m_LW_total) 0 = .ok (.iconst 0, 1) := by decide +kernel
theorem d_LW_total_1 : decode (mC m_LW_total) 1 = .ok (.istore_n 2, 1) := by decide +kernel
theorem d_LW_total_2 : decode (mC m_LW_total) 2 = .ok (.aload_n 0, 1) := by decide +kernel
theorem d_LW_total_3 : decode (mC m_LW_total) 3 = .ok (.getfield 40, 3) := by decide +kernel
theorem d_LW_total_6 : decode (mC m_LW_total) 6 = .ok (.astore_n 3, 1) := by decide +kernel
theorem d_LW_total_7 : decode (mC m_LW_total) 7 = .ok (.aload_n 3, 1) := by decide +kernel
theorem d_LW_total_8 : decode (mC m_LW_total) 8 = .ok (.arraylength, 1) := by decide +kernel
theorem d_LW_total_9 : decode (mC m_LW_total) 9 = .ok (.istore 4, 2) := by decide +kernel
theorem d_LW_total_11 : decode (mC m_LW_total) 11 = .ok (.iconst 0, 1) := by decide +kernel
theorem d_LW_total_12 : decode (mC m_LW_total) 12 = .ok (.istore 5, 2) := by decide +kernel
theorem d_LW_total_14 : decode (mC m_LW_total) 14 = .ok (.iload 5, 2) := by decide +kernel
theorem d_LW_total_16 : decode (mC m_LW_total) 16 = .ok (.iload 4, 2) := by decide +kernel
theorem d_LW_total_18 : decode (mC m_LW_total) 18 = .ok (.if_icmp .ge 25, 3) := by decide +kernel
theorem d_LW_total_21 : decode (mC m_LW_total) 21 = .ok (.aload_n 3, 1) := by decide +kernel
theorem d_LW_total_22 : decode (mC m_LW_total) 22 = .ok (.iload 5, 2) := by decide +kernel
theorem d_LW_total_24 : decode (mC m_LW_total) 24 = .ok (.iaload, 1) := by decide +kernel
theorem d_LW_total_25 : decode (mC m_LW_total) 25 = .ok (.istore 6, 2) := by decide +kernel
theorem d_LW_total_27 : decode (mC m_LW_total) 27 = .ok (.iload_n 2, 1) := by decide +kernel
theorem d_LW_total_28 : decode (mC m_LW_total) 28 = .ok (.aload_n 0, 1) := by decide +kernel
theorem d_LW_total_29 : decode (mC m_LW_total) 29 = .ok (.aload_n 1, 1) := by decide +kernel
theorem d_LW_total_30 : decode (mC m_LW_total) 30 = .ok (.iload 6, 2) := by decide +kernel
theorem d_LW_total_32 : decode (mC m_LW_total) 32 = .ok (.invokestatic 127, 3) := by decide +kernel
theorem d_LW_total_35 : decode (mC m_LW_total) 35 = .ok (.iadd, 1) := by decide +kernel
theorem d_LW_total_36 : decode (mC m_LW_total) 36 = .ok (.istore_n 2, 1) := by decide +kernel
theorem d_LW_total_37 : decode (mC m_LW_total) 37 = .ok (.iinc 5 1, 3) := by decide +kernel
theorem d_LW_total_40 : decode (mC m_LW_total) 40 = .ok (.goto (-26), 3) := by decide +kernel
theorem d_LW_total_43 : decode (mC m_LW_total) 43 = .ok (.iload_n 2, 1) := by decide +kernel
theorem d_LW_total_44 : decode (mC m_LW_total) 44 = .ok (.ireturn, 1) := by decide +kernel
theorem d_LW_excess_0 : decode (mC m_LW_excess) 0 = .ok (.iconst 0, 1) := by decide +kernel
theorem d_LW_excess_1 : decode (mC m_LW_excess) 1 = .ok (.aload_n 1, 1) := by decide +kernel
theorem d_LW_excess_2 : decode (mC m_LW_excess) 2 = .ok (.iload_n 2, 1) := by decide +kernel
theorem d_LW_excess_3 : decode (mC m_LW_excess) 3 = .ok (.invokestatic 114, 3) := by decide +kernel
theorem d_LW_excess_6 : decode (mC m_LW_excess) 6 = .ok (.invokestatic 118, 3) := by decide +kernel
theorem d_LW_excess_9 : decode (mC m_LW_excess) 9 = .ok (.aload_n 0, 1) := by decide +kernel
theorem d_LW_excess_10 : decode (mC m_LW_excess) 10 = .ok (.getfield 30, 3) := by decide +kernel
theorem d_LW_excess_13 : decode (mC m_LW_excess) 13 = .ok (.iconst 0, 1) := by decide +kernel
theorem d_LW_excess_14 : decode (mC m_LW_excess) 14 = .ok (.iaload, 1) := by decide +kernel
theorem d_LW_excess_15 : decode (mC m_LW_excess) 15 = .ok (.isub, 1) := by decide +kernel
theorem d_LW_excess_16 : decode (mC m_LW_excess) 16 = .ok (.iload_n 2, 1) := by decide +kernel
theorem d_LW_excess_17 : decode (mC m_LW_excess) 17 = .ok (.aload_n 0, 1) := by decide +kernel
theorem d_LW_excess_18 : decode (mC m_LW_excess) 18 = .ok (.getfield 30, 3) := by decide +kernel
theorem d_LW_excess_21 : decode (mC m_LW_excess) 21 = .ok (.iconst 1, 1) := by decide +kernel
theorem d_LW_excess_22 : decode (mC m_LW_excess) 22 = .ok (.iaload, 1) := by decide +kernel
theorem d_LW_excess_23 : decode (mC m_LW_excess) 23 = .ok (.imul, 1) := by decide +kernel
theorem d_LW_excess_24 : decode (mC m_LW_excess) 24 = .ok (.sipush 1000, 3) := by decide +kernel
theorem d_LW_excess_27 : decode (mC m_LW_excess) 27 = .ok (.idiv, 1) := by decide +kernel
theorem d_LW_excess_28 : decode (mC m_LW_excess) 28 = .ok (.isub, 1) := by decide +kernel
theorem d_LW_excess_29 : decode (mC m_LW_excess) 29 = .ok (.invokestatic 123, 3) := by decide +kernel
theorem d_LW_excess_32 : decode (mC m_LW_excess) 32 = .ok (.ireturn, 1) := by decide +kernel
theorem d_LW_error_0 : decode (mC m_LW_error) 0 = .ok (.aload_n 0, 1) := by decide +kernel
theorem d_LW_error_1 : decode (mC m_LW_error) 1 = .ok (.getfield 75, 3) := by decide +kernel
theorem d_LW_error_4 : decode (mC m_LW_error) 4 = .ok (.iload_n 1, 1) := by decide +kernel
theorem d_LW_error_5 : decode (mC m_LW_error) 5 = .ok (.aload_n 0, 1) := by decide +kernel
theorem d_LW_error_6 : decode (mC m_LW_error) 6 = .ok (.getfield 78, 3) := by decide +kernel
theorem d_LW_error_9 : decode (mC m_LW_error) 9 = .ok (.imul, 1) := by decide +kernel
theorem d_LW_error_10 : decode (mC m_LW_error) 10 = .ok (.sipush 1000, 3) := by decide +kernel
theorem d_LW_error_13 : decode (mC m_LW_error) 13 = .ok (.idiv, 1) := by decide +kernel
theorem d_LW_error_14 : decode (mC m_LW_error) 14 = .ok (.iadd, 1) := by decide +kernel
theorem d_LW_error_15 : decode (mC m_LW_error) 15 = .ok (.ireturn, 1) := by decide +kernel
theorem d_LW_fails_0 : decode (mC m_LW_fails) 0 = .ok (.aload_n 0, 1) := by decide +kernel
theorem d_LW_fails_1 : decode (mC m_LW_fails) 1 = .ok (.aload_n 1, 1) := by decide +kernel
theorem d_LW_fails_2 : decode (mC m_LW_fails) 2 = .ok (.invokestatic 131, 3) := by decide +kernel
theorem d_LW_fails_5 : decode (mC m_LW_fails) 5 = .ok (.ifCond .gt 17, 3) := by decide +kernel
theorem d_LW_fails_8 : decode (mC m_LW_fails) 8 = .ok (.aload_n 1, 1) := by decide +kernel
theorem d_LW_fails_9 : decode (mC m_LW_fails) 9 = .ok (.getfield 135, 3) := by decide +kernel
theorem d_LW_fails_12 : decode (mC m_LW_fails) 12 = .ok (.aload_n 0, 1) := by decide +kernel
theorem d_LW_fails_13 : decode (mC m_LW_fails) 13 = .ok (.getfield 30, 3) := by decide +kernel
theorem d_LW_fails_16 : decode (mC m_LW_fails) 16 = .ok (.bipush 7, 2) := by decide +kernel
theorem d_LW_fails_18 : decode (mC m_LW_fails) 18 = .ok (.iaload, 1) := by decide +kernel
theorem d_LW_fails_19 : decode (mC m_LW_fails) 19 = .ok (.if_icmp .ge 7, 3) := by decide +kernel
theorem d_LW_fails_22 : decode (mC m_LW_fails) 22 = .ok (.iconst 1, 1) := by decide +kernel
theorem d_LW_fails_23 : decode (mC m_LW_fails) 23 = .ok (.goto 4, 3) := by decide +kernel
theorem d_LW_fails_26 : decode (mC m_LW_fails) 26 = .ok (.iconst 0, 1) := by decide +kernel
theorem d_LW_fails_27 : decode (mC m_LW_fails) 27 = .ok (.ireturn, 1) := by decide +kernel
theorem d_LW_fine_0 : decode (mC m_LW_fine) 0 = .ok (.aload_n 0, 1) := by decide +kernel
theorem d_LW_fine_1 : decode (mC m_LW_fine) 1 = .ok (.getfield 30, 3) := by decide +kernel
theorem d_LW_fine_4 : decode (mC m_LW_fine) 4 = .ok (.iconst 2, 1) := by decide +kernel
theorem d_LW_fine_5 : decode (mC m_LW_fine) 5 = .ok (.iaload, 1) := by decide +kernel
theorem d_LW_fine_6 : decode (mC m_LW_fine) 6 = .ok (.aload_n 0, 1) := by decide +kernel
theorem d_LW_fine_7 : decode (mC m_LW_fine) 7 = .ok (.aload_n 1, 1) := by decide +kernel
theorem d_LW_fine_8 : decode (mC m_LW_fine) 8 = .ok (.invokestatic 131, 3) := by decide +kernel
theorem d_LW_fine_11 : decode (mC m_LW_fine) 11 = .ok (.bipush 27, 2) := by decide +kernel
theorem d_LW_fine_13 : decode (mC m_LW_fine) 13 = .ok (.iadd, 1) := by decide +kernel
theorem d_LW_fine_14 : decode (mC m_LW_fine) 14 = .ok (.bipush 28, 2) := by decide +kernel
theorem d_LW_fine_16 : decode (mC m_LW_fine) 16 = .ok (.idiv, 1) := by decide +kernel
theorem d_LW_fine_17 : decode (mC m_LW_fine) 17 = .ok (.imul, 1) := by decide +kernel
theorem d_LW_fine_18 : decode (mC m_LW_fine) 18 = .ok (.aload_n 1, 1) := by decide +kernel
theorem d_LW_fine_19 : decode (mC m_LW_fine) 19 = .ok (.getfield 135, 3) := by decide +kernel
theorem d_LW_fine_22 : decode (mC m_LW_fine) 22 = .ok (.aload_n 0, 1) := by decide +kernel
theorem d_LW_fine_23 : decode (mC m_LW_fine) 23 = .ok (.getfield 30, 3) := by decide +kernel
theorem d_LW_fine_26 : decode (mC m_LW_fine) 26 = .ok (.bipush 7, 2) := by decide +kernel
theorem d_LW_fine_28 : decode (mC m_LW_fine) 28 = .ok (.iaload, 1) := by decide +kernel
theorem d_LW_fine_29 : decode (mC m_LW_fine) 29 = .ok (.if_icmp .ge 14, 3) := by decide +kernel
theorem d_LW_fine_32 : decode (mC m_LW_fine) 32 = .ok (.iconst 5, 1) := by decide +kernel
theorem d_LW_fine_33 : decode (mC m_LW_fine) 33 = .ok (.aload_n 0, 1) := by decide +kernel
theorem d_LW_fine_34 : decode (mC m_LW_fine) 34 = .ok (.getfield 30, 3) := by decide +kernel
theorem d_LW_fine_37 : decode (mC m_LW_fine) 37 = .ok (.iconst 2, 1) := by decide +kernel
theorem d_LW_fine_38 : decode (mC m_LW_fine) 38 = .ok (.iaload, 1) := by decide +kernel
theorem d_LW_fine_39 : decode (mC m_LW_fine) 39 = .ok (.imul, 1) := by decide +kernel
theorem d_LW_fine_40 : decode (mC m_LW_fine) 40 = .ok (.goto 4, 3) := by decide +kernel
theorem d_LW_fine_43 : decode (mC m_LW_fine) 43 = .ok (.iconst 0, 1) := by decide +kernel
theorem d_LW_fine_44 : decode (mC m_LW_fine) 44 = .ok (.iadd, 1) := by decide +kernel
theorem d_LW_fine_45 : decode (mC m_LW_fine) 45 = .ok (.ireturn, 1) := by decide +kernel
theorem d_LW_visitO_0 : decode (mC m_LW_visitO) 0 = .ok (.aload_n 0, 1) := by decide +kernel
theorem d_LW_visitO_1 : decode (mC m_LW_visitO) 1 = .ok (.iload_n 1, 1) := by decide +kernel
theorem d_LW_visitO_2 : decode (mC m_LW_visitO) 2 = .ok (.invokevirtual 245, 3) := by decide +kernel
theorem d_LW_visitO_5 : decode (mC m_LW_visitO) 5 = .ok (.ireturn, 1) := by decide +kernel
theorem d_LW_visitO_6 : decode (mC m_LW_visitO) 6 = .ok (.astore_n 2, 1) := by decide +kernel
theorem d_LW_visitO_7 : decode (mC m_LW_visitO) 7 = .ok (.bipush (-100), 2) := by decide +kernel
theorem d_LW_visitO_9 : decode (mC m_LW_visitO) 9 = .ok (.ireturn, 1) := by decide +kernel
theorem d_LW_repairO_0 : decode (mC m_LW_repairO) 0 = .ok (.aload_n 0, 1) := by decide +kernel
theorem d_LW_repairO_1 : decode (mC m_LW_repairO) 1 = .ok (.iload_n 1, 1) := by decide +kernel
theorem d_LW_repairO_2 : decode (mC m_LW_repairO) 2 = .ok (.invokevirtual 249, 3) := by decide +kernel
theorem d_LW_repairO_5 : decode (mC m_LW_repairO) 5 = .ok (.ireturn, 1) := by decide +kernel
theorem d_LW_repairO_6 : decode (mC m_LW_repairO) 6 = .ok (.astore_n 2, 1) := by decide +kernel
theorem d_LW_repairO_7 : decode (mC m_LW_repairO) 7 = .ok (.ldc 252, 2) := by decide +kernel
theorem d_LW_repairO_9 : decode (mC m_LW_repairO) 9 = .ok (.ireturn, 1) := by decide +kernel
theorem d_LW_complainO_0 : decode (mC m_LW_complainO) 0 = .ok (.aload_n 0, 1) := by decide +kernel
theorem d_LW_complainO_1 : decode (mC m_LW_complainO) 1 = .ok (.iload_n 1, 1) := by decide +kernel
theorem d_LW_complainO_2 : decode (mC m_LW_complainO) 2 = .ok (.invokevirtual 253, 3) := by decide +kernel
theorem d_LW_complainO_5 : decode (mC m_LW_complainO) 5 = .ok (.ireturn, 1) := by decide +kernel
theorem d_LW_complainO_6 : decode (mC m_LW_complainO) 6 = .ok (.astore_n 2, 1) := by decide +kernel
theorem d_LW_complainO_7 : decode (mC m_LW_complainO) 7 = .ok (.bipush (-100), 2) := by decide +kernel
theorem d_LW_complainO_9 : decode (mC m_LW_complainO) 9 = .ok (.ireturn, 1) := by decide +kernel
theorem d_LW_reopenO_0 : decode (mC m_LW_reopenO) 0 = .ok (.aload_n 0, 1) := by decide +kernel
theorem d_LW_reopenO_1 : decode (mC m_LW_reopenO) 1 = .ok (.iload_n 1, 1) := by decide +kernel
theorem d_LW_reopenO_2 : decode (mC m_LW_reopenO) 2 = .ok (.invokevirtual 256, 3) := by decide +kernel
theorem d_LW_reopenO_5 : decode (mC m_LW_reopenO) 5 = .ok (.ireturn, 1) := by decide +kernel
theorem d_LW_reopenO_6 : decode (mC m_LW_reopenO) 6 = .ok (.astore_n 2, 1) := by decide +kernel
theorem d_LW_reopenO_7 : decode (mC m_LW_reopenO) 7 = .ok (.bipush (-100), 2) := by decide +kernel
theorem d_LW_reopenO_9 : decode (mC m_LW_reopenO) 9 = .ok (.ireturn, 1) := by decide +kernel
theorem d_LW_gain_0 : decode (mC m_LW_gain) 0 = .ok (.aload_n 1, 1) := by decide +kernel
theorem d_LW_gain_1 : decode (mC m_LW_gain) 1 = .ok (.getfield 141, 3) := by decide +kernel
theorem d_LW_gain_4 : decode (mC m_LW_gain) 4 = .ok (.ifCond .lt 22, 3) := by decide +kernel
theorem d_LW_gain_7 : decode (mC m_LW_gain) 7 = .ok (.aload_n 0, 1) := by decide +kernel
theorem d_LW_gain_8 : decode (mC m_LW_gain) 8 = .ok (.getfield 30, 3) := by decide +kernel
theorem d_LW_gain_11 : decode (mC m_LW_gain) 11 = .ok (.bipush 7, 2) := by decide +kernel
theorem d_LW_gain_13 : decode (mC m_LW_gain) 13 = .ok (.iaload, 1) := by decide +kernel
theorem d_LW_gain_14 : decode (mC m_LW_gain) 14 = .ok (.aload_n 1, 1) := by decide +kernel
theorem d_LW_gain_15 : decode (mC m_LW_gain) 15 = .ok (.getfield 141, 3) := by decide +kernel
theorem d_LW_gain_18 : decode (mC m_LW_gain) 18 = .ok (.isub, 1) := by decide +kernel
theorem d_LW_gain_19 : decode (mC m_LW_gain) 19 = .ok (.aload_n 1, 1) := by decide +kernel
theorem d_LW_gain_20 : decode (mC m_LW_gain) 20 = .ok (.getfield 93, 3) := by decide +kernel
theorem d_LW_gain_23 : decode (mC m_LW_gain) 23 = .ok (.if_icmp .le 7, 3) := by decide +kernel
theorem d_LW_gain_26 : decode (mC m_LW_gain) 26 = .ok (.iconst 1, 1) := by decide +kernel
theorem d_LW_gain_27 : decode (mC m_LW_gain) 27 = .ok (.goto 4, 3) := by decide +kernel
theorem d_LW_gain_30 : decode (mC m_LW_gain) 30 = .ok (.iconst 0, 1) := by decide +kernel
theorem d_LW_gain_31 : decode (mC m_LW_gain) 31 = .ok (.istore_n 2, 1) := by decide +kernel
theorem d_LW_gain_32 : decode (mC m_LW_gain) 32 = .ok (.aload_n 1, 1) := by decide +kernel
theorem d_LW_gain_33 : decode (mC m_LW_gain) 33 = .ok (.getfield 87, 3) := by decide +kernel
theorem d_LW_gain_36 : decode (mC m_LW_gain) 36 = .ok (.aload_n 1, 1) := by decide +kernel
theorem d_LW_gain_37 : decode (mC m_LW_gain) 37 = .ok (.aload_n 1, 1) := by decide +kernel
theorem d_LW_gain_38 : decode (mC m_LW_gain) 38 = .ok (.getfield 84, 3) := by decide +kernel
theorem d_LW_gain_41 : decode (mC m_LW_gain) 41 = .ok (.invokestatic 114, 3) := by decide +kernel
theorem d_LW_gain_44 : decode (mC m_LW_gain) 44 = .ok (.iload_n 2, 1) := by decide +kernel
theorem d_LW_gain_45 : decode (mC m_LW_gain) 45 = .ok (.ifCond .eq 10, 3) := by decide +kernel
theorem d_LW_gain_48 : decode (mC m_LW_gain) 48 = .ok (.aload_n 1, 1) := by decide +kernel
theorem d_LW_gain_49 : decode (mC m_LW_gain) 49 = .ok (.getfield 90, 3) := by decide +kernel
theorem d_LW_gain_52 : decode (mC m_LW_gain) 52 = .ok (.goto 4, 3) := by decide +kernel
theorem d_LW_gain_55 : decode (mC m_LW_gain) 55 = .ok (.iconst 0, 1) := by decide +kernel
theorem d_LW_gain_56 : decode (mC m_LW_gain) 56 = .ok (.iadd, 1) := by decide +kernel
theorem d_LW_gain_57 : decode (mC m_LW_gain) 57 = .ok (.imul, 1) := by decide +kernel
theorem d_LW_gain_58 : decode (mC m_LW_gain) 58 = .ok (.aload_n 0, 1) := by decide +kernel
theorem d_LW_gain_59 : decode (mC m_LW_gain) 59 = .ok (.getfield 30, 3) := by decide +kernel
theorem d_LW_gain_62 : decode (mC m_LW_gain) 62 = .ok (.iconst 4, 1) := by decide +kernel
theorem d_LW_gain_63 : decode (mC m_LW_gain) 63 = .ok (.iaload, 1) := by decide +kernel
theorem d_LW_gain_64 : decode (mC m_LW_gain) 64 = .ok (.imul, 1) := by decide +kernel
theorem d_LW_gain_65 : decode (mC m_LW_gain) 65 = .ok (.sipush 1000, 3) := by decide +kernel
theorem d_LW_gain_68 : decode (mC m_LW_gain) 68 = .ok (.idiv, 1) := by decide +kernel
theorem d_LW_gain_69 : decode (mC m_LW_gain) 69 = .ok (.ireturn, 1) := by decide +kernel
theorem d_LW_foretold_0 : decode (mC m_LW_foretold) 0 = .ok (.aload_n 0, 1) := by decide +kernel
theorem d_LW_foretold_1 : decode (mC m_LW_foretold) 1 = .ok (.iload_n 2, 1) := by decide +kernel
theorem d_LW_foretold_2 : decode (mC m_LW_foretold) 2 = .ok (.bipush 25, 2) := by decide +kernel
theorem d_LW_foretold_4 : decode (mC m_LW_foretold) 4 = .ok (.invokevirtual 325, 3) := by decide +kernel
theorem d_LW_foretold_7 : decode (mC m_LW_foretold) 7 = .ok (.istore_n 3, 1) := by decide +kernel
theorem d_LW_foretold_8 : decode (mC m_LW_foretold) 8 = .ok (.aload_n 0, 1) := by decide +kernel
theorem d_LW_foretold_9 : decode (mC m_LW_foretold) 9 = .ok (.iload_n 2, 1) := by decide +kernel
theorem d_LW_foretold_10 : decode (mC m_LW_foretold) 10 = .ok (.invokevirtual 328, 3) := by decide +kernel
theorem d_LW_foretold_13 : decode (mC m_LW_foretold) 13 = .ok (.istore 4, 2) := by decide +kernel
theorem d_LW_foretold_15 : decode (mC m_LW_foretold) 15 = .ok (.aload_n 1, 1) := by decide +kernel
theorem d_LW_foretold_16 : decode (mC m_LW_foretold) 16 = .ok (.getfield 45, 3) := by decide +kernel
theorem d_LW_foretold_19 : decode (mC m_LW_foretold) 19 = .ok (.iload_n 2, 1) := by decide +kernel
theorem d_LW_foretold_20 : decode (mC m_LW_foretold) 20 = .ok (.aaload, 1) := by decide +kernel
theorem d_LW_foretold_21 : decode (mC m_LW_foretold) 21 = .ok (.getfield 157, 3) := by decide +kernel
theorem d_LW_foretold_24 : decode (mC m_LW_foretold) 24 = .ok (.ifCond .eq 7, 3) := by decide +kernel
theorem d_LW_foretold_27 : decode (mC m_LW_foretold) 27 = .ok (.iconst (-1), 1) := by decide +kernel
theorem d_LW_foretold_28 : decode (mC m_LW_foretold) 28 = .ok (.goto 4, 3) := by decide +kernel
theorem d_LW_foretold_31 : decode (mC m_LW_foretold) 31 = .ok (.iconst 0, 1) := by decide +kernel
theorem d_LW_foretold_32 : decode (mC m_LW_foretold) 32 = .ok (.istore 5, 2) := by decide +kernel
theorem d_LW_foretold_34 : decode (mC m_LW_foretold) 34 = .ok (.iconst 1, 1) := by decide +kernel
theorem d_LW_foretold_35 : decode (mC m_LW_foretold) 35 = .ok (.istore 6, 2) := by decide +kernel
theorem d_LW_foretold_37 : decode (mC m_LW_foretold) 37 = .ok (.iload 6, 2) := by decide +kernel
theorem d_LW_foretold_39 : decode (mC m_LW_foretold) 39 = .ok (.bipush 25, 2) := by decide +kernel
theorem d_LW_foretold_41 : decode (mC m_LW_foretold) 41 = .ok (.if_icmp .gt 40, 3) := by decide +kernel
theorem d_LW_foretold_44 : decode (mC m_LW_foretold) 44 = .ok (.aload_n 0, 1) := by decide +kernel
theorem d_LW_foretold_45 : decode (mC m_LW_foretold) 45 = .ok (.aload_n 1, 1) := by decide +kernel
theorem d_LW_foretold_46 : decode (mC m_LW_foretold) 46 = .ok (.invokestatic 289, 3) := by decide +kernel
theorem d_LW_foretold_49 : decode (mC m_LW_foretold) 49 = .ok (.ifCond .ne 5, 3) := by decide +kernel
theorem d_LW_foretold_52 : decode (mC m_LW_foretold) 52 = .ok (.iconst 0, 1) := by decide +kernel
theorem d_LW_foretold_53 : decode (mC m_LW_foretold) 53 = .ok (.ireturn, 1) := by decide +kernel
theorem d_LW_foretold_54 : decode (mC m_LW_foretold) 54 = .ok (.iload 5, 2) := by decide +kernel
theorem d_LW_foretold_56 : decode (mC m_LW_foretold) 56 = .ok (.ifCond .ge 19, 3) := by decide +kernel
theorem d_LW_foretold_59 : decode (mC m_LW_foretold) 59 = .ok (.aload_n 1, 1) := by decide +kernel
theorem d_LW_foretold_60 : decode (mC m_LW_foretold) 60 = .ok (.getfield 45, 3) := by decide +kernel
theorem d_LW_foretold_63 : decode (mC m_LW_foretold) 63 = .ok (.iload_n 2, 1) := by decide +kernel
theorem d_LW_foretold_64 : decode (mC m_LW_foretold) 64 = .ok (.aaload, 1) := by decide +kernel
theorem d_LW_foretold_65 : decode (mC m_LW_foretold) 65 = .ok (.getfield 157, 3) := by decide +kernel
theorem d_LW_foretold_68 : decode (mC m_LW_foretold) 68 = .ok (.ifCond .ne 7, 3) := by decide +kernel
theorem d_LW_foretold_71 : decode (mC m_LW_foretold) 71 = .ok (.iload 6, 2) := by decide +kernel
theorem d_LW_foretold_73 : decode (mC m_LW_foretold) 73 = .ok (.istore 5, 2) := by decide +kernel
theorem d_LW_foretold_75 : decode (mC m_LW_foretold) 75 = .ok (.iinc 6 1, 3) := by decide +kernel
theorem d_LW_foretold_78 : decode (mC m_LW_foretold) 78 = .ok (.goto (-41), 3) := by decide +kernel
theorem d_LW_foretold_81 : decode (mC m_LW_foretold) 81 = .ok (.aload_n 0, 1) := by decide +kernel
theorem d_LW_foretold_82 : decode (mC m_LW_foretold) 82 = .ok (.iload_n 2, 1) := by decide +kernel
theorem d_LW_foretold_83 : decode (mC m_LW_foretold) 83 = .ok (.invokevirtual 215, 3) := by decide +kernel
theorem d_LW_foretold_86 : decode (mC m_LW_foretold) 86 = .ok (.iload_n 3, 1) := by decide +kernel
theorem d_LW_foretold_87 : decode (mC m_LW_foretold) 87 = .ok (.if_icmp .ne 34, 3) := by decide +kernel
theorem d_LW_foretold_90 : decode (mC m_LW_foretold) 90 = .ok (.iload 5, 2) := by decide +kernel
theorem d_LW_foretold_92 : decode (mC m_LW_foretold) 92 = .ok (.ifCond .lt 13, 3) := by decide +kernel
theorem d_LW_foretold_95 : decode (mC m_LW_foretold) 95 = .ok (.iload 4, 2) := by decide +kernel
theorem d_LW_foretold_97 : decode (mC m_LW_foretold) 97 = .ok (.iload 5, 2) := by decide +kernel
theorem d_LW_foretold_99 : decode (mC m_LW_foretold) 99 = .ok (.if_icmp .ne 22, 3) := by decide +kernel
theorem d_LW_foretold_102 : decode (mC m_LW_foretold) 102 = .ok (.goto 15, 3) := by decide +kernel
theorem d_LW_foretold_105 : decode (mC m_LW_foretold) 105 = .ok (.iload 4, 2) := by decide +kernel
theorem d_LW_foretold_107 : decode (mC m_LW_foretold) 107 = .ok (.ifCond .lt 10, 3) := by decide +kernel
theorem d_LW_foretold_110 : decode (mC m_LW_foretold) 110 = .ok (.iload 4, 2) := by decide +kernel
theorem d_LW_foretold_112 : decode (mC m_LW_foretold) 112 = .ok (.bipush 25, 2) := by decide +kernel
theorem d_LW_foretold_114 : decode (mC m_LW_foretold) 114 = .ok (.if_icmp .le 7, 3) := by decide +kernel
theorem d_LW_foretold_117 : decode (mC m_LW_foretold) 117 = .ok (.iconst 1, 1) := by decide +kernel
theorem d_LW_foretold_118 : decode (mC m_LW_foretold) 118 = .ok (.goto 4, 3) := by decide +kernel
theorem d_LW_foretold_121 : decode (mC m_LW_foretold) 121 = .ok (.iconst 0, 1) := by decide +kernel
theorem d_LW_foretold_122 : decode (mC m_LW_foretold) 122 = .ok (.ireturn, 1) := by decide +kernel
