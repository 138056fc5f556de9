theorem d_SH_init_0 : decode (mC m_SH_init) 0 = .ok (.aload_n 0, 1) := by decide +kernel
theorem d_SH_init_1 : decode (mC m_SH_init) 1 = .ok (.invokespecial 3, 3) := by decide +kernel
theorem d_SH_init_4 : decode (mC m_SH_init) 4 = .ok (.return_, 1) := by decide +kernel
theorem d_SH_begin_0 : decode (mC m_SH_begin) 0 = .ok (.aload_n 0, 1) := by decide +kernel
theorem d_SH_begin_1 : decode (mC m_SH_begin) 1 = .ok (.aload_n 1, 1) := by decide +kernel
theorem d_SH_begin_2 : decode (mC m_SH_begin) 2 = .ok (.iconst 0, 1) := by decide +kernel
theorem d_SH_begin_3 : decode (mC m_SH_begin) 3 = .ok (.iaload, 1) := by decide +kernel
theorem d_SH_begin_4 : decode (mC m_SH_begin) 4 = .ok (.putfield 9, 3) := by decide +kernel
theorem d_SH_begin_7 : decode (mC m_SH_begin) 7 = .ok (.aload_n 0, 1) := by decide +kernel
theorem d_SH_begin_8 : decode (mC m_SH_begin) 8 = .ok (.aload_n 1, 1) := by decide +kernel
theorem d_SH_begin_9 : decode (mC m_SH_begin) 9 = .ok (.iconst 0, 1) := by decide +kernel
theorem d_SH_begin_10 : decode (mC m_SH_begin) 10 = .ok (.iaload, 1) := by decide +kernel
theorem d_SH_begin_11 : decode (mC m_SH_begin) 11 = .ok (.putfield 15, 3) := by decide +kernel
theorem d_SH_begin_14 : decode (mC m_SH_begin) 14 = .ok (.aload_n 0, 1) := by decide +kernel
theorem d_SH_begin_15 : decode (mC m_SH_begin) 15 = .ok (.aload_n 1, 1) := by decide +kernel
theorem d_SH_begin_16 : decode (mC m_SH_begin) 16 = .ok (.iconst 1, 1) := by decide +kernel
theorem d_SH_begin_17 : decode (mC m_SH_begin) 17 = .ok (.iaload, 1) := by decide +kernel
theorem d_SH_begin_18 : decode (mC m_SH_begin) 18 = .ok (.sipush 500, 3) := by decide +kernel
theorem d_SH_begin_21 : decode (mC m_SH_begin) 21 = .ok (.isub, 1) := by decide +kernel
theorem d_SH_begin_22 : decode (mC m_SH_begin) 22 = .ok (.putfield 18, 3) := by decide +kernel
theorem d_SH_begin_25 : decode (mC m_SH_begin) 25 = .ok (.aload_n 0, 1) := by decide +kernel
theorem d_SH_begin_26 : decode (mC m_SH_begin) 26 = .ok (.aload_n 1, 1) := by decide +kernel
theorem d_SH_begin_27 : decode (mC m_SH_begin) 27 = .ok (.iconst 2, 1) := by decide +kernel
theorem d_SH_begin_28 : decode (mC m_SH_begin) 28 = .ok (.iaload, 1) := by decide +kernel
theorem d_SH_begin_29 : decode (mC m_SH_begin) 29 = .ok (.bipush 50, 2) := by decide +kernel
theorem d_SH_begin_31 : decode (mC m_SH_begin) 31 = .ok (.isub, 1) := by decide +kernel
theorem d_SH_begin_32 : decode (mC m_SH_begin) 32 = .ok (.putfield 21, 3) := by decide +kernel
theorem d_SH_begin_35 : decode (mC m_SH_begin) 35 = .ok (.aload_n 0, 1) := by decide +kernel
theorem d_SH_begin_36 : decode (mC m_SH_begin) 36 = .ok (.aload_n 1, 1) := by decide +kernel
theorem d_SH_begin_37 : decode (mC m_SH_begin) 37 = .ok (.iconst 3, 1) := by decide +kernel
theorem d_SH_begin_38 : decode (mC m_SH_begin) 38 = .ok (.iaload, 1) := by decide +kernel
theorem d_SH_begin_39 : decode (mC m_SH_begin) 39 = .ok (.iconst 5, 1) := by decide +kernel
theorem d_SH_begin_40 : decode (mC m_SH_begin) 40 = .ok (.isub, 1) := by decide +kernel
theorem d_SH_begin_41 : decode (mC m_SH_begin) 41 = .ok (.putfield 24, 3) := by decide +kernel
theorem d_SH_begin_44 : decode (mC m_SH_begin) 44 = .ok (.aload_n 0, 1) := by decide +kernel
theorem d_SH_begin_45 : decode (mC m_SH_begin) 45 = .ok (.aload_n 1, 1) := by decide +kernel
theorem d_SH_begin_46 : decode (mC m_SH_begin) 46 = .ok (.iconst 4, 1) := by decide +kernel
theorem d_SH_begin_47 : decode (mC m_SH_begin) 47 = .ok (.iaload, 1) := by decide +kernel
theorem d_SH_begin_48 : decode (mC m_SH_begin) 48 = .ok (.putfield 27, 3) := by decide +kernel
theorem d_SH_begin_51 : decode (mC m_SH_begin) 51 = .ok (.aload_n 0, 1) := by decide +kernel
theorem d_SH_begin_52 : decode (mC m_SH_begin) 52 = .ok (.aload_n 1, 1) := by decide +kernel
theorem d_SH_begin_53 : decode (mC m_SH_begin) 53 = .ok (.iconst 5, 1) := by decide +kernel
theorem d_SH_begin_54 : decode (mC m_SH_begin) 54 = .ok (.iaload, 1) := by decide +kernel
theorem d_SH_begin_55 : decode (mC m_SH_begin) 55 = .ok (.putfield 30, 3) := by decide +kernel
theorem d_SH_begin_58 : decode (mC m_SH_begin) 58 = .ok (.aload_n 0, 1) := by decide +kernel
theorem d_SH_begin_59 : decode (mC m_SH_begin) 59 = .ok (.aload_n 1, 1) := by decide +kernel
theorem d_SH_begin_60 : decode (mC m_SH_begin) 60 = .ok (.bipush 6, 2) := by decide +kernel
theorem d_SH_begin_62 : decode (mC m_SH_begin) 62 = .ok (.iaload, 1) := by decide +kernel
theorem d_SH_begin_63 : decode (mC m_SH_begin) 63 = .ok (.putfield 33, 3) := by decide +kernel
theorem d_SH_begin_66 : decode (mC m_SH_begin) 66 = .ok (.aload_n 0, 1) := by decide +kernel
theorem d_SH_begin_67 : decode (mC m_SH_begin) 67 = .ok (.aload_n 1, 1) := by decide +kernel
theorem d_SH_begin_68 : decode (mC m_SH_begin) 68 = .ok (.bipush 7, 2) := by decide +kernel
theorem d_SH_begin_70 : decode (mC m_SH_begin) 70 = .ok (.iaload, 1) := by decide +kernel
theorem d_SH_begin_71 : decode (mC m_SH_begin) 71 = .ok (.putfield 36, 3) := by decide +kernel
theorem d_SH_begin_74 : decode (mC m_SH_begin) 74 = .ok (.aload_n 0, 1) := by decide +kernel
theorem d_SH_begin_75 : decode (mC m_SH_begin) 75 = .ok (.iconst 0, 1) := by decide +kernel
theorem d_SH_begin_76 : decode (mC m_SH_begin) 76 = .ok (.putfield 39, 3) := by decide +kernel
theorem d_SH_begin_79 : decode (mC m_SH_begin) 79 = .ok (.aload_n 0, 1) := by decide +kernel
theorem d_SH_begin_80 : decode (mC m_SH_begin) 80 = .ok (.iconst 0, 1) := by decide +kernel
theorem d_SH_begin_81 : decode (mC m_SH_begin) 81 = .ok (.putfield 42, 3) := by decide +kernel
theorem d_SH_begin_84 : decode (mC m_SH_begin) 84 = .ok (.aload_n 0, 1) := by decide +kernel
theorem d_SH_begin_85 : decode (mC m_SH_begin) 85 = .ok (.iconst (-1), 1) := by decide +kernel
theorem d_SH_begin_86 : decode (mC m_SH_begin) 86 = .ok (.putfield 45, 3) := by decide +kernel
theorem d_SH_begin_89 : decode (mC m_SH_begin) 89 = .ok (.aload_n 0, 1) := by decide +kernel
theorem d_SH_begin_90 : decode (mC m_SH_begin) 90 = .ok (.iconst 0, 1) := by decide +kernel
theorem d_SH_begin_91 : decode (mC m_SH_begin) 91 = .ok (.putfield 48, 3) := by decide +kernel
theorem d_SH_begin_94 : decode (mC m_SH_begin) 94 = .ok (.aload_n 0, 1) := by decide +kernel
theorem d_SH_begin_95 : decode (mC m_SH_begin) 95 = .ok (.iconst 0, 1) := by decide +kernel
theorem d_SH_begin_96 : decode (mC m_SH_begin) 96 = .ok (.putfield 51, 3) := by decide +kernel
theorem d_SH_begin_99 : decode (mC m_SH_begin) 99 = .ok (.aload_n 0, 1) := by decide +kernel
theorem d_SH_begin_100 : decode (mC m_SH_begin) 100 = .ok (.iconst 0, 1) := by decide +kernel
theorem d_SH_begin_101 : decode (mC m_SH_begin) 101 = .ok (.putfield 54, 3) := by decide +kernel
theorem d_SH_begin_104 : decode (mC m_SH_begin) 104 = .ok (.aload_n 0, 1) := by decide +kernel
theorem d_SH_begin_105 : decode (mC m_SH_begin) 105 = .ok (.iconst 1, 1) := by decide +kernel
theorem d_SH_begin_106 : decode (mC m_SH_begin) 106 = .ok (.putfield 57, 3) := by decide +kernel
theorem d_SH_begin_109 : decode (mC m_SH_begin) 109 = .ok (.return_, 1) := by decide +kernel
theorem d_SH_copyFrom_0 : decode (mC m_SH_copyFrom) 0 = .ok (.aload_n 0, 1) := by decide +kernel
theorem d_SH_copyFrom_1 : decode (mC m_SH_copyFrom) 1 = .ok (.aload_n 1, 1) := by decide +kernel
theorem d_SH_copyFrom_2 : decode (mC m_SH_copyFrom) 2 = .ok (.getfield 9, 3) := by decide +kernel
theorem d_SH_copyFrom_5 : decode (mC m_SH_copyFrom) 5 = .ok (.putfield 9, 3) := by decide +kernel
theorem d_SH_copyFrom_8 : decode (mC m_SH_copyFrom) 8 = .ok (.aload_n 0, 1) := by decide +kernel
theorem d_SH_copyFrom_9 : decode (mC m_SH_copyFrom) 9 = .ok (.aload_n 1, 1) := by decide +kernel
theorem d_SH_copyFrom_10 : decode (mC m_SH_copyFrom) 10 = .ok (.getfield 15, 3) := by decide +kernel
theorem d_SH_copyFrom_13 : decode (mC m_SH_copyFrom) 13 = .ok (.putfield 15, 3) := by decide +kernel
theorem d_SH_copyFrom_16 : decode (mC m_SH_copyFrom) 16 = .ok (.aload_n 0, 1) := by decide +kernel
theorem d_SH_copyFrom_17 : decode (mC m_SH_copyFrom) 17 = .ok (.aload_n 1, 1) := by decide +kernel
theorem d_SH_copyFrom_18 : decode (mC m_SH_copyFrom) 18 = .ok (.getfield 18, 3) := by decide +kernel
theorem d_SH_copyFrom_21 : decode (mC m_SH_copyFrom) 21 = .ok (.putfield 18, 3) := by decide +kernel
theorem d_SH_copyFrom_24 : decode (mC m_SH_copyFrom) 24 = .ok (.aload_n 0, 1) := by decide +kernel
theorem d_SH_copyFrom_25 : decode (mC m_SH_copyFrom) 25 = .ok (.aload_n 1, 1) := by decide +kernel
theorem d_SH_copyFrom_26 : decode (mC m_SH_copyFrom) 26 = .ok (.getfield 21, 3) := by decide +kernel
theorem d_SH_copyFrom_29 : decode (mC m_SH_copyFrom) 29 = .ok (.putfield 21, 3) := by decide +kernel
theorem d_SH_copyFrom_32 : decode (mC m_SH_copyFrom) 32 = .ok (.aload_n 0, 1) := by decide +kernel
theorem d_SH_copyFrom_33 : decode (mC m_SH_copyFrom) 33 = .ok (.aload_n 1, 1) := by decide +kernel
theorem d_SH_copyFrom_34 : decode (mC m_SH_copyFrom) 34 = .ok (.getfield 24, 3) := by decide +kernel
theorem d_SH_copyFrom_37 : decode (mC m_SH_copyFrom) 37 = .ok (.putfield 24, 3) := by decide +kernel
theorem d_SH_copyFrom_40 : decode (mC m_SH_copyFrom) 40 = .ok (.aload_n 0, 1) := by decide +kernel
theorem d_SH_copyFrom_41 : decode (mC m_SH_copyFrom) 41 = .ok (.aload_n 1, 1) := by decide +kernel
theorem d_SH_copyFrom_42 : decode (mC m_SH_copyFrom) 42 = .ok (.getfield 27, 3) := by decide +kernel
theorem d_SH_copyFrom_45 : decode (mC m_SH_copyFrom) 45 = .ok (.putfield 27, 3) := by decide +kernel
theorem d_SH_copyFrom_48 : decode (mC m_SH_copyFrom) 48 = .ok (.aload_n 0, 1) := by decide +kernel
theorem d_SH_copyFrom_49 : decode (mC m_SH_copyFrom) 49 = .ok (.aload_n 1, 1) := by decide +kernel
theorem d_SH_copyFrom_50 : decode (mC m_SH_copyFrom) 50 = .ok (.getfield 30, 3) := by decide +kernel
theorem d_SH_copyFrom_53 : decode (mC m_SH_copyFrom) 53 = .ok (.putfield 30, 3) := by decide +kernel
theorem d_SH_copyFrom_56 : decode (mC m_SH_copyFrom) 56 = .ok (.aload_n 0, 1) := by decide +kernel
theorem d_SH_copyFrom_57 : decode (mC m_SH_copyFrom) 57 = .ok (.aload_n 1, 1) := by decide +kernel
theorem d_SH_copyFrom_58 : decode (mC m_SH_copyFrom) 58 = .ok (.getfield 33, 3) := by decide +kernel
theorem d_SH_copyFrom_61 : decode (mC m_SH_copyFrom) 61 = .ok (.putfield 33, 3) := by decide +kernel
theorem d_SH_copyFrom_64 : decode (mC m_SH_copyFrom) 64 = .ok (.aload_n 0, 1) := by decide +kernel
theorem d_SH_copyFrom_65 : decode (mC m_SH_copyFrom) 65 = .ok (.aload_n 1, 1) := by decide +kernel
theorem d_SH_copyFrom_66 : decode (mC m_SH_copyFrom) 66 = .ok (.getfield 36, 3) := by decide +kernel
theorem d_SH_copyFrom_69 : decode (mC m_SH_copyFrom) 69 = .ok (.putfield 36, 3) := by decide +kernel
theorem d_SH_copyFrom_72 : decode (mC m_SH_copyFrom) 72 = .ok (.aload_n 0, 1) := by decide +kernel
theorem d_SH_copyFrom_73 : decode (mC m_SH_copyFrom) 73 = .ok (.aload_n 1, 1) := by decide +kernel
theorem d_SH_copyFrom_74 : decode (mC m_SH_copyFrom) 74 = .ok (.getfield 39, 3) := by decide +kernel
theorem d_SH_copyFrom_77 : decode (mC m_SH_copyFrom) 77 = .ok (.putfield 39, 3) := by decide +kernel
theorem d_SH_copyFrom_80 : decode (mC m_SH_copyFrom) 80 = .ok (.aload_n 0, 1) := by decide +kernel
theorem d_SH_copyFrom_81 : decode (mC m_SH_copyFrom) 81 = .ok (.aload_n 1, 1) := by decide +kernel
theorem d_SH_copyFrom_82 : decode (mC m_SH_copyFrom) 82 = .ok (.getfield 42, 3) := by decide +kernel
theorem d_SH_copyFrom_85 : decode (mC m_SH_copyFrom) 85 = .ok (.putfield 42, 3) := by decide +kernel
theorem d_SH_copyFrom_88 : decode (mC m_SH_copyFrom) 88 = .ok (.aload_n 0, 1) := by decide +kernel
theorem d_SH_copyFrom_89 : decode (mC m_SH_copyFrom) 89 = .ok (.aload_n 1, 1) := by decide +kernel
theorem d_SH_copyFrom_90 : decode (mC m_SH_copyFrom) 90 = .ok (.getfield 45, 3) := by decide +kernel
theorem d_SH_copyFrom_93 : decode (mC m_SH_copyFrom) 93 = .ok (.putfield 45, 3) := by decide +kernel
theorem d_SH_copyFrom_96 : decode (mC m_SH_copyFrom) 96 = .ok (.aload_n 0, 1) := by decide +kernel
theorem d_SH_copyFrom_97 : decode (mC m_SH_copyFrom) 97 = .ok (.aload_n 1, 1) := by decide +kernel
theorem d_SH_copyFrom_98 : decode (mC m_SH_copyFrom) 98 = .ok (.getfield 48, 3) := by decide +kernel
theorem d_SH_copyFrom_101 : decode (mC m_SH_copyFrom) 101 = .ok (.putfield 48, 3) := by decide +kernel
theorem d_SH_copyFrom_104 : decode (mC m_SH_copyFrom) 104 = .ok (.aload_n 0, 1) := by decide +kernel
theorem d_SH_copyFrom_105 : decode (mC m_SH_copyFrom) 105 = .ok (.aload_n 1, 1) := by decide +kernel
theorem d_SH_copyFrom_106 : decode (mC m_SH_copyFrom) 106 = .ok (.getfield 51, 3) := by decide +kernel
theorem d_SH_copyFrom_109 : decode (mC m_SH_copyFrom) 109 = .ok (.putfield 51, 3) := by decide +kernel
theorem d_SH_copyFrom_112 : decode (mC m_SH_copyFrom) 112 = .ok (.aload_n 0, 1) := by decide +kernel
theorem d_SH_copyFrom_113 : decode (mC m_SH_copyFrom) 113 = .ok (.aload_n 1, 1) := by decide +kernel
theorem d_SH_copyFrom_114 : decode (mC m_SH_copyFrom) 114 = .ok (.getfield 54, 3) := by decide +kernel
theorem d_SH_copyFrom_117 : decode (mC m_SH_copyFrom) 117 = .ok (.putfield 54, 3) := by decide +kernel
theorem d_SH_copyFrom_120 : decode (mC m_SH_copyFrom) 120 = .ok (.aload_n 0, 1) := by decide +kernel
theorem d_SH_copyFrom_121 : decode (mC m_SH_copyFrom) 121 = .ok (.aload_n 1, 1) := by decide +kernel
theorem d_SH_copyFrom_122 : decode (mC m_SH_copyFrom) 122 = .ok (.getfield 57, 3) := by decide +kernel
theorem d_SH_copyFrom_125 : decode (mC m_SH_copyFrom) 125 = .ok (.putfield 57, 3) := by decide +kernel
theorem d_SH_copyFrom_128 : decode (mC m_SH_copyFrom) 128 = .ok (.return_, 1) := by decide +kernel
theorem d_SH_driftOneDay_0 : decode (mC m_SH_driftOneDay) 0 = .ok (.aload_n 0, 1) := by decide +kernel
theorem d_SH_driftOneDay_1 : decode (mC m_SH_driftOneDay) 1 = .ok (.sipush (-500), 3) := by decide +kernel
theorem d_SH_driftOneDay_4 : decode (mC m_SH_driftOneDay) 4 = .ok (.sipush 500, 3) := by decide +kernel
theorem d_SH_driftOneDay_7 : decode (mC m_SH_driftOneDay) 7 = .ok (.aload_n 0, 1) := by decide +kernel
theorem d_SH_driftOneDay_8 : decode (mC m_SH_driftOneDay) 8 = .ok (.getfield 18, 3) := by decide +kernel
theorem d_SH_driftOneDay_11 : decode (mC m_SH_driftOneDay) 11 = .ok (.aload_n 0, 1) := by decide +kernel
theorem d_SH_driftOneDay_12 : decode (mC m_SH_driftOneDay) 12 = .ok (.getfield 24, 3) := by decide +kernel
theorem d_SH_driftOneDay_15 : decode (mC m_SH_driftOneDay) 15 = .ok (.iadd, 1) := by decide +kernel
theorem d_SH_driftOneDay_16 : decode (mC m_SH_driftOneDay) 16 = .ok (.invokestatic 69, 3) := by decide +kernel
theorem d_SH_driftOneDay_19 : decode (mC m_SH_driftOneDay) 19 = .ok (.invokestatic 75, 3) := by decide +kernel
theorem d_SH_driftOneDay_22 : decode (mC m_SH_driftOneDay) 22 = .ok (.putfield 18, 3) := by decide +kernel
theorem d_SH_driftOneDay_25 : decode (mC m_SH_driftOneDay) 25 = .ok (.return_, 1) := by decide +kernel
theorem d_SH_falseGramsOn_0 : decode (mC m_SH_falseGramsOn) 0 = .ok (.aload_n 0, 1) := by decide +kernel
theorem d_SH_falseGramsOn_1 : decode (mC m_SH_falseGramsOn) 1 = .ok (.aload_n 0, 1) := by decide +kernel
theorem d_SH_falseGramsOn_2 : decode (mC m_SH_falseGramsOn) 2 = .ok (.getfield 27, 3) := by decide +kernel
theorem d_SH_falseGramsOn_5 : decode (mC m_SH_falseGramsOn) 5 = .ok (.invokevirtual 61, 3) := by decide +kernel
theorem d_SH_falseGramsOn_8 : decode (mC m_SH_falseGramsOn) 8 = .ok (.aload_n 0, 1) := by decide +kernel
theorem d_SH_falseGramsOn_9 : decode (mC m_SH_falseGramsOn) 9 = .ok (.iload_n 1, 1) := by decide +kernel
theorem d_SH_falseGramsOn_10 : decode (mC m_SH_falseGramsOn) 10 = .ok (.invokevirtual 65, 3) := by decide +kernel
theorem d_SH_falseGramsOn_13 : decode (mC m_SH_falseGramsOn) 13 = .ok (.ifCond .eq 10, 3) := by decide +kernel
theorem d_SH_falseGramsOn_16 : decode (mC m_SH_falseGramsOn) 16 = .ok (.aload_n 0, 1) := by decide +kernel
theorem d_SH_falseGramsOn_17 : decode (mC m_SH_falseGramsOn) 17 = .ok (.getfield 33, 3) := by decide +kernel
theorem d_SH_falseGramsOn_20 : decode (mC m_SH_falseGramsOn) 20 = .ok (.goto 4, 3) := by decide +kernel
theorem d_SH_falseGramsOn_23 : decode (mC m_SH_falseGramsOn) 23 = .ok (.iconst 0, 1) := by decide +kernel
theorem d_SH_falseGramsOn_24 : decode (mC m_SH_falseGramsOn) 24 = .ok (.iadd, 1) := by decide +kernel
theorem d_SH_falseGramsOn_25 : decode (mC m_SH_falseGramsOn) 25 = .ok (.ireturn, 1) := by decide +kernel
theorem d_SH_errorFor_0 : decode (mC m_SH_errorFor) 0 = .ok (.aload_n 0, 1) := by decide +kernel
theorem d_SH_errorFor_1 : decode (mC m_SH_errorFor) 1 = .ok (.getfield 18, 3) := by decide +kernel
theorem d_SH_errorFor_4 : decode (mC m_SH_errorFor) 4 = .ok (.iload_n 1, 1) := by decide +kernel
theorem d_SH_errorFor_5 : decode (mC m_SH_errorFor) 5 = .ok (.aload_n 0, 1) := by decide +kernel
theorem d_SH_errorFor_6 : decode (mC m_SH_errorFor) 6 = .ok (.getfield 21, 3) := by decide +kernel
theorem d_SH_errorFor_9 : decode (mC m_SH_errorFor) 9 = .ok (.imul, 1) := by decide +kernel
theorem d_SH_errorFor_10 : decode (mC m_SH_errorFor) 10 = .ok (.sipush 1000, 3) := by decide +kernel
theorem d_SH_errorFor_13 : decode (mC m_SH_errorFor) 13 = .ok (.idiv, 1) := by decide +kernel
theorem d_SH_errorFor_14 : decode (mC m_SH_errorFor) 14 = .ok (.iadd, 1) := by decide +kernel
theorem d_SH_errorFor_15 : decode (mC m_SH_errorFor) 15 = .ok (.ireturn, 1) := by decide +kernel
theorem d_SH_usesThumbOn_0 : decode (mC m_SH_usesThumbOn) 0 = .ok (.aload_n 0, 1) := by decide +kernel
theorem d_SH_usesThumbOn_1 : decode (mC m_SH_usesThumbOn) 1 = .ok (.getfield 45, 3) := by decide +kernel
theorem d_SH_usesThumbOn_4 : decode (mC m_SH_usesThumbOn) 4 = .ok (.iconst (-1), 1) := by decide +kernel
theorem d_SH_usesThumbOn_5 : decode (mC m_SH_usesThumbOn) 5 = .ok (.if_icmp .eq 16, 3) := by decide +kernel
theorem d_SH_usesThumbOn_8 : decode (mC m_SH_usesThumbOn) 8 = .ok (.iload_n 1, 1) := by decide +kernel
theorem d_SH_usesThumbOn_9 : decode (mC m_SH_usesThumbOn) 9 = .ok (.aload_n 0, 1) := by decide +kernel
theorem d_SH_usesThumbOn_10 : decode (mC m_SH_usesThumbOn) 10 = .ok (.getfield 45, 3) := by decide +kernel
theorem d_SH_usesThumbOn_13 : decode (mC m_SH_usesThumbOn) 13 = .ok (.isub, 1) := by decide +kernel
theorem d_SH_usesThumbOn_14 : decode (mC m_SH_usesThumbOn) 14 = .ok (.aload_n 0, 1) := by decide +kernel
theorem d_SH_usesThumbOn_15 : decode (mC m_SH_usesThumbOn) 15 = .ok (.getfield 36, 3) := by decide +kernel
theorem d_SH_usesThumbOn_18 : decode (mC m_SH_usesThumbOn) 18 = .ok (.if_icmp .le 7, 3) := by decide +kernel
theorem d_SH_usesThumbOn_21 : decode (mC m_SH_usesThumbOn) 21 = .ok (.iconst 1, 1) := by decide +kernel
theorem d_SH_usesThumbOn_22 : decode (mC m_SH_usesThumbOn) 22 = .ok (.goto 4, 3) := by decide +kernel
theorem d_SH_usesThumbOn_25 : decode (mC m_SH_usesThumbOn) 25 = .ok (.iconst 0, 1) := by decide +kernel
theorem d_SH_usesThumbOn_26 : decode (mC m_SH_usesThumbOn) 26 = .ok (.ireturn, 1) := by decide +kernel
theorem d_SH_isStampedOn_0 : decode (mC m_SH_isStampedOn) 0 = .ok (.iload_n 1, 1) := by decide +kernel
theorem d_SH_isStampedOn_1 : decode (mC m_SH_isStampedOn) 1 = .ok (.aload_n 0, 1) := by decide +kernel
theorem d_SH_isStampedOn_2 : decode (mC m_SH_isStampedOn) 2 = .ok (.getfield 48, 3) := by decide +kernel
theorem d_SH_isStampedOn_5 : decode (mC m_SH_isStampedOn) 5 = .ok (.if_icmp .gt 7, 3) := by decide +kernel
theorem d_SH_isStampedOn_8 : decode (mC m_SH_isStampedOn) 8 = .ok (.iconst 1, 1) := by decide +kernel
theorem d_SH_isStampedOn_9 : decode (mC m_SH_isStampedOn) 9 = .ok (.goto 4, 3) := by decide +kernel
theorem d_SH_isStampedOn_12 : decode (mC m_SH_isStampedOn) 12 = .ok (.iconst 0, 1) := by decide +kernel
theorem d_SH_isStampedOn_13 : decode (mC m_SH_isStampedOn) 13 = .ok (.ireturn, 1) := by decide +kernel
theorem d_SH_straighten_0 : decode (mC m_SH_straighten) 0 = .ok (.aload_n 0, 1) := by decide +kernel
theorem d_SH_straighten_1 : decode (mC m_SH_straighten) 1 = .ok (.iconst 0, 1) := by decide +kernel
theorem d_SH_straighten_2 : decode (mC m_SH_straighten) 2 = .ok (.putfield 18, 3) := by decide +kernel
theorem d_SH_straighten_5 : decode (mC m_SH_straighten) 5 = .ok (.aload_n 0, 1) := by decide +kernel
theorem d_SH_straighten_6 : decode (mC m_SH_straighten) 6 = .ok (.iconst 0, 1) := by decide +kernel
theorem d_SH_straighten_7 : decode (mC m_SH_straighten) 7 = .ok (.putfield 21, 3) := by decide +kernel
theorem d_SH_straighten_10 : decode (mC m_SH_straighten) 10 = .ok (.return_, 1) := by decide +kernel
theorem d_SH_canPayRepair_0 : decode (mC m_SH_canPayRepair) 0 = .ok (.aload_n 0, 1) := by decide +kernel
theorem d_SH_canPayRepair_1 : decode (mC m_SH_canPayRepair) 1 = .ok (.getfield 57, 3) := by decide +kernel
theorem d_SH_canPayRepair_4 : decode (mC m_SH_canPayRepair) 4 = .ok (.ifCond .eq 16, 3) := by decide +kernel
theorem d_SH_canPayRepair_7 : decode (mC m_SH_canPayRepair) 7 = .ok (.aload_n 0, 1) := by decide +kernel
theorem d_SH_canPayRepair_8 : decode (mC m_SH_canPayRepair) 8 = .ok (.getfield 15, 3) := by decide +kernel
theorem d_SH_canPayRepair_11 : decode (mC m_SH_canPayRepair) 11 = .ok (.bipush 10, 2) := by decide +kernel
theorem d_SH_canPayRepair_13 : decode (mC m_SH_canPayRepair) 13 = .ok (.if_icmp .lt 7, 3) := by decide +kernel
theorem d_SH_canPayRepair_16 : decode (mC m_SH_canPayRepair) 16 = .ok (.iconst 1, 1) := by decide +kernel
theorem d_SH_canPayRepair_17 : decode (mC m_SH_canPayRepair) 17 = .ok (.goto 4, 3) := by decide +kernel
theorem d_SH_canPayRepair_20 : decode (mC m_SH_canPayRepair) 20 = .ok (.iconst 0, 1) := by decide +kernel
theorem d_SH_canPayRepair_21 : decode (mC m_SH_canPayRepair) 21 = .ok (.ireturn, 1) := by decide +kernel
theorem d_SH_openAgain_0 : decode (mC m_SH_openAgain) 0 = .ok (.aload_n 0, 1) := by decide +kernel
theorem d_SH_openAgain_1 : decode (mC m_SH_openAgain) 1 = .ok (.iconst 1, 1) := by decide +kernel
theorem d_SH_openAgain_2 : decode (mC m_SH_openAgain) 2 = .ok (.putfield 57, 3) := by decide +kernel
theorem d_SH_openAgain_5 : decode (mC m_SH_openAgain) 5 = .ok (.aload_n 0, 1) := by decide +kernel
theorem d_SH_openAgain_6 : decode (mC m_SH_openAgain) 6 = .ok (.iconst 0, 1) := by decide +kernel
theorem d_SH_openAgain_7 : decode (mC m_SH_openAgain) 7 = .ok (.putfield 42, 3) := by decide +kernel
theorem d_SH_openAgain_10 : decode (mC m_SH_openAgain) 10 = .ok (.return_, 1) := by decide +kernel
theorem oi_SH_init : Cond.methodLink (mY m_SH_init).cls 3 objectInit ∈ tG ∧ Cond.instanceMethod objectInit ∈ tG ∧ Cond.code objectInit ⟨#[0xb1]⟩ 1 none ∈ tG := ⟨tg_1 124 rfl rfl, tg_1 34 rfl rfl, tg_1 35 rfl rfl⟩
theorem mm_SH_driftOneDay_69 : MM m_SH_driftOneDay 69 Lib.Math.min.name Lib.Math.min.code 2 := ⟨tg_5 184 rfl rfl, tg_3 69 rfl rfl, tg_1 16 rfl rfl, tg_3 70 rfl rfl, by decide, by decide⟩
theorem mm_SH_driftOneDay_75 : MM m_SH_driftOneDay 75 Lib.Math.max.name Lib.Math.max.code 2 := ⟨tg_5 185 rfl rfl, tg_3 51 rfl rfl, tg_1 16 rfl rfl, tg_3 52 rfl rfl, by decide, by decide⟩
set_option maxRecDepth 20000 in
theorem ct_SH_errorFor {E : En} {h : Hp} {a : Nat} {g : Int32} (hk : hK h a = 6) : CR E m_SH_errorFor [.ref a, .int g] h (some (.int (M_err (hI h a) g))) (h) := by
  refine ct_of rfl (by decide +kernel) (Nat.le_of_ble_eq_true rfl) ?_
  show G E m_SH_errorFor 0 [(0, .ref a), (1, .int g)] [] h 0 0 _ noX
  refine g_aload_n (pc := 0) d_SH_errorFor_0 rfl 0 rfl ?_
  refine g_getI (pc := 1) (ci := 5) (f := 1) rfl d_SH_errorFor_1 fl_SH_18 (by decide) (by assumption) ?_
  refine g_iload_n (pc := 4) d_SH_errorFor_4 rfl 1 rfl ?_
  refine g_aload_n (pc := 5) d_SH_errorFor_5 rfl 0 rfl ?_
  refine g_getI (pc := 6) (ci := 5) (f := 2) rfl d_SH_errorFor_6 fl_SH_21 (by decide) (by assumption) ?_
  refine g_imul (pc := 9) d_SH_errorFor_9 ?_
  refine g_sipush (pc := 10) (v := 1000) d_SH_errorFor_10 (by decide) ?_
  refine g_idiv (pc := 13) d_SH_errorFor_13 (by decide) ?_
  refine g_iadd (pc := 14) d_SH_errorFor_14 ?_
  refine g_iret (pc := 15) d_SH_errorFor_15 rfl ?_
  exact ⟨rfl, rfl⟩
set_option maxRecDepth 20000 in
theorem ct_SH_isStampedOn {E : En} {h : Hp} {a : Nat} {d : Int32} (hk : hK h a = 6) : CR E m_SH_isStampedOn [.ref a, .int d] h (some (.int (bI (M_stamped (hI h a) d)))) (h) := by
  refine ct_of rfl (by decide +kernel) (Nat.le_of_ble_eq_true rfl) ?_
  show G E m_SH_isStampedOn 0 [(0, .ref a), (1, .int d)] [] h 0 0 _ noX
  refine g_iload_n (pc := 0) d_SH_isStampedOn_0 rfl 1 rfl ?_
  refine g_aload_n (pc := 1) d_SH_isStampedOn_1 rfl 0 rfl ?_
  refine g_getI (pc := 2) (ci := 5) (f := 11) rfl d_SH_isStampedOn_2 fl_SH_48 (by decide) (by assumption) ?_
  refine g_icmp_gt (pc := 5) (tgt := 12) d_SH_isStampedOn_5 (by decide) (fun c_5 => ?_) (fun c_5 => ?_)
  · skip
    refine g_iconst (pc := 12) (v := 0) d_SH_isStampedOn_12 (by decide) ?_
    refine g_zret (pc := 13) d_SH_isStampedOn_13 rfl rfl ?_
    exact ⟨by simp_all [M_stamped, M_uses, M_canPay, bI], rfl⟩
  · skip
    refine g_iconst (pc := 8) (v := 1) d_SH_isStampedOn_8 (by decide) ?_
    refine g_goto (pc := 9) (tgt := 13) d_SH_isStampedOn_9 (by decide) ?_
    refine g_zret (pc := 13) d_SH_isStampedOn_13 rfl rfl ?_
    exact ⟨by simp_all [M_stamped, M_uses, M_canPay, bI], rfl⟩
set_option maxRecDepth 20000 in
theorem ct_SH_usesThumbOn {E : En} {h : Hp} {a : Nat} {d : Int32} (hk : hK h a = 6) : CR E m_SH_usesThumbOn [.ref a, .int d] h (some (.int (bI (M_uses (hI h a) d)))) (h) := by
  refine ct_of rfl (by decide +kernel) (Nat.le_of_ble_eq_true rfl) ?_
  show G E m_SH_usesThumbOn 0 [(0, .ref a), (1, .int d)] [] h 0 0 _ noX
  refine g_aload_n (pc := 0) d_SH_usesThumbOn_0 rfl 0 rfl ?_
  refine g_getI (pc := 1) (ci := 5) (f := 10) rfl d_SH_usesThumbOn_1 fl_SH_45 (by decide) (by assumption) ?_
  refine g_iconst (pc := 4) (v := (-1)) d_SH_usesThumbOn_4 (by decide) ?_
  refine g_icmp_eq (pc := 5) (tgt := 21) d_SH_usesThumbOn_5 (by decide) (fun c_5 => ?_) (fun c_5 => ?_)
  · skip
    refine g_iconst (pc := 21) (v := 1) d_SH_usesThumbOn_21 (by decide) ?_
    refine g_goto (pc := 22) (tgt := 26) d_SH_usesThumbOn_22 (by decide) ?_
    refine g_zret (pc := 26) d_SH_usesThumbOn_26 rfl rfl ?_
    exact ⟨by simp_all [M_stamped, M_uses, M_canPay, bI], rfl⟩
  · skip
    refine g_iload_n (pc := 8) d_SH_usesThumbOn_8 rfl 1 rfl ?_
    refine g_aload_n (pc := 9) d_SH_usesThumbOn_9 rfl 0 rfl ?_
    refine g_getI (pc := 10) (ci := 5) (f := 10) rfl d_SH_usesThumbOn_10 fl_SH_45 (by decide) (by assumption) ?_
    refine g_isub (pc := 13) d_SH_usesThumbOn_13 ?_
    refine g_aload_n (pc := 14) d_SH_usesThumbOn_14 rfl 0 rfl ?_
    refine g_getI (pc := 15) (ci := 5) (f := 7) rfl d_SH_usesThumbOn_15 fl_SH_36 (by decide) (by assumption) ?_
    refine g_icmp_le (pc := 18) (tgt := 25) d_SH_usesThumbOn_18 (by decide) (fun c_18 => ?_) (fun c_18 => ?_)
    · skip
      refine g_iconst (pc := 25) (v := 0) d_SH_usesThumbOn_25 (by decide) ?_
      refine g_zret (pc := 26) d_SH_usesThumbOn_26 rfl rfl ?_
      exact ⟨by simp_all [M_stamped, M_uses, M_canPay, bI], rfl⟩
    · skip
      refine g_iconst (pc := 21) (v := 1) d_SH_usesThumbOn_21 (by decide) ?_
      refine g_goto (pc := 22) (tgt := 26) d_SH_usesThumbOn_22 (by decide) ?_
      refine g_zret (pc := 26) d_SH_usesThumbOn_26 rfl rfl ?_
      exact ⟨by simp_all [M_stamped, M_uses, M_canPay, bI], rfl⟩
set_option maxRecDepth 20000 in
theorem ct_SH_canPayRepair {E : En} {h : Hp} {a : Nat} (hk : hK h a = 6) : CR E m_SH_canPayRepair [.ref a] h (some (.int (bI (M_canPay (hI h a))))) (h) := by
  refine ct_of rfl (by decide +kernel) (Nat.le_of_ble_eq_true rfl) ?_
  show G E m_SH_canPayRepair 0 [(0, .ref a)] [] h 0 0 _ noX
  refine g_aload_n (pc := 0) d_SH_canPayRepair_0 rfl 0 rfl ?_
  refine g_getI (pc := 1) (ci := 5) (f := 12) rfl d_SH_canPayRepair_1 fl_SH_57 (by decide) (by assumption) ?_
  refine g_if_eq (pc := 4) (tgt := 20) d_SH_canPayRepair_4 (by decide) (fun c_4 => ?_) (fun c_4 => ?_)
  · skip
    refine g_iconst (pc := 20) (v := 0) d_SH_canPayRepair_20 (by decide) ?_
    refine g_zret (pc := 21) d_SH_canPayRepair_21 rfl rfl ?_
    exact ⟨by simp_all [M_stamped, M_uses, M_canPay, bI], rfl⟩
  · skip
    refine g_aload_n (pc := 7) d_SH_canPayRepair_7 rfl 0 rfl ?_
    refine g_getI (pc := 8) (ci := 5) (f := 0) rfl d_SH_canPayRepair_8 fl_SH_15 (by decide) (by assumption) ?_
    refine g_bipush (pc := 11) (v := 10) d_SH_canPayRepair_11 (by decide) ?_
    refine g_icmp_lt (pc := 13) (tgt := 20) d_SH_canPayRepair_13 (by decide) (fun c_13 => ?_) (fun c_13 => ?_)
    · skip
      refine g_iconst (pc := 20) (v := 0) d_SH_canPayRepair_20 (by decide) ?_
      refine g_zret (pc := 21) d_SH_canPayRepair_21 rfl rfl ?_
      exact ⟨by simp_all [M_stamped, M_uses, M_canPay, bI], rfl⟩
    · skip
      refine g_iconst (pc := 16) (v := 1) d_SH_canPayRepair_16 (by decide) ?_
      refine g_goto (pc := 17) (tgt := 21) d_SH_canPayRepair_17 (by decide) ?_
      refine g_zret (pc := 21) d_SH_canPayRepair_21 rfl rfl ?_
      exact ⟨by simp_all [M_stamped, M_uses, M_canPay, bI], rfl⟩
set_option maxRecDepth 20000 in
theorem ct_SH_falseGramsOn {E : En} {h : Hp} {a : Nat} {d : Int32} (hk : hK h a = 6) : CR E m_SH_falseGramsOn [.ref a, .int d] h (some (.int (M_false (hI h a) d))) (h) := by
  refine ct_of rfl (by decide +kernel) (Nat.le_of_ble_eq_true rfl) ?_
  show G E m_SH_falseGramsOn 0 [(0, .ref a), (1, .int d)] [] h 0 0 _ noX
  refine g_aload_n (pc := 0) d_SH_falseGramsOn_0 rfl 0 rfl ?_
  refine g_aload_n (pc := 1) d_SH_falseGramsOn_1 rfl 0 rfl ?_
  refine g_getI (pc := 2) (ci := 5) (f := 4) rfl d_SH_falseGramsOn_2 fl_SH_27 (by decide) (by assumption) ?_
  refine g_cV1 (pc := 5) (ci := 5) (As := [.int _]) d_SH_falseGramsOn_5 rfl mv_SH_errorFor st_SH_falseGramsOn_61 rfl rfl (by decide) rfl rfl (Nat.le_of_ble_eq_true rfl) (by assumption) (ct_SH_errorFor (by assumption)) ?_
  refine g_aload_n (pc := 8) d_SH_falseGramsOn_8 rfl 0 rfl ?_
  refine g_iload_n (pc := 9) d_SH_falseGramsOn_9 rfl 1 rfl ?_
  refine g_cV1 (pc := 10) (ci := 5) (As := [.int _]) d_SH_falseGramsOn_10 rfl mv_SH_usesThumbOn st_SH_falseGramsOn_65 rfl rfl (by decide) rfl rfl (Nat.le_of_ble_eq_true rfl) (by assumption) (ct_SH_usesThumbOn (by assumption)) ?_
  refine g_if_eq (pc := 13) (tgt := 23) d_SH_falseGramsOn_13 (by decide) (fun c_13 => ?_) (fun c_13 => ?_)
  · skip
    refine g_iconst (pc := 23) (v := 0) d_SH_falseGramsOn_23 (by decide) ?_
    refine g_iadd (pc := 24) d_SH_falseGramsOn_24 ?_
    refine g_iret (pc := 25) d_SH_falseGramsOn_25 rfl ?_
    exact ⟨by simp_all [M_false, bI], rfl⟩
  · skip
    refine g_aload_n (pc := 16) d_SH_falseGramsOn_16 rfl 0 rfl ?_
    refine g_getI (pc := 17) (ci := 5) (f := 6) rfl d_SH_falseGramsOn_17 fl_SH_33 (by decide) (by assumption) ?_
    refine g_goto (pc := 20) (tgt := 24) d_SH_falseGramsOn_20 (by decide) ?_
    refine g_iadd (pc := 24) d_SH_falseGramsOn_24 ?_
    refine g_iret (pc := 25) d_SH_falseGramsOn_25 rfl ?_
    exact ⟨by simp_all [M_false, bI], rfl⟩
set_option maxRecDepth 20000 in
theorem ct_SH_driftOneDay {E : En} {h : Hp} {a : Nat} (hk : hK h a = 6) : CR E m_SH_driftOneDay [.ref a] h (none) (sA h a (M_drift (hI h a))) := by
  refine ct_of rfl (by decide +kernel) (Nat.le_of_ble_eq_true rfl) ?_
  show G E m_SH_driftOneDay 0 [(0, .ref a)] [] h 0 0 _ noX
  refine g_aload_n (pc := 0) d_SH_driftOneDay_0 rfl 0 rfl ?_
  refine g_sipush (pc := 1) (v := (-500)) d_SH_driftOneDay_1 (by decide) ?_
  refine g_sipush (pc := 4) (v := 500) d_SH_driftOneDay_4 (by decide) ?_
  refine g_aload_n (pc := 7) d_SH_driftOneDay_7 rfl 0 rfl ?_
  refine g_getI (pc := 8) (ci := 5) (f := 1) rfl d_SH_driftOneDay_8 fl_SH_18 (by decide) (by assumption) ?_
  refine g_aload_n (pc := 11) d_SH_driftOneDay_11 rfl 0 rfl ?_
  refine g_getI (pc := 12) (ci := 5) (f := 3) rfl d_SH_driftOneDay_12 fl_SH_24 (by decide) (by assumption) ?_
  refine g_iadd (pc := 15) d_SH_driftOneDay_15 ?_
  refine g_min (pc := 16) d_SH_driftOneDay_16 mm_SH_driftOneDay_69 (Nat.le_of_ble_eq_true rfl) ?_
  refine g_max (pc := 19) d_SH_driftOneDay_19 mm_SH_driftOneDay_75 (Nat.le_of_ble_eq_true rfl) ?_
  refine g_putI (pc := 22) (ci := 5) (f := 1) rfl d_SH_driftOneDay_22 fl_SH_18 (fun q hq => by cases hq; exact rfl) rfl rfl (by decide) (by assumption) ?_
  refine g_vret (pc := 25) d_SH_driftOneDay_25 rfl ?_
  exact ⟨rfl, by simp [sI_sA, sA_sA, hI_sA_same, u1_at, M_drift, M_clip, M_straight, M_open]⟩
set_option maxRecDepth 20000 in
theorem ct_SH_straighten {E : En} {h : Hp} {a : Nat} (hk : hK h a = 6) : CR E m_SH_straighten [.ref a] h (none) (sA h a (M_straight (hI h a))) := by
  refine ct_of rfl (by decide +kernel) (Nat.le_of_ble_eq_true rfl) ?_
  show G E m_SH_straighten 0 [(0, .ref a)] [] h 0 0 _ noX
  refine g_aload_n (pc := 0) d_SH_straighten_0 rfl 0 rfl ?_
  refine g_iconst (pc := 1) (v := 0) d_SH_straighten_1 (by decide) ?_
  refine g_putI (pc := 2) (ci := 5) (f := 1) rfl d_SH_straighten_2 fl_SH_18 (fun q hq => by cases hq; exact rfl) rfl rfl (by decide) (by assumption) ?_
  refine g_aload_n (pc := 5) d_SH_straighten_5 rfl 0 rfl ?_
  refine g_iconst (pc := 6) (v := 0) d_SH_straighten_6 (by decide) ?_
  refine g_putI (pc := 7) (ci := 5) (f := 2) rfl d_SH_straighten_7 fl_SH_21 (fun q hq => by cases hq; exact rfl) rfl rfl (by decide) (by assumption) ?_
  refine g_vret (pc := 10) d_SH_straighten_10 rfl ?_
  exact ⟨rfl, by simp [sI_sA, sA_sA, hI_sA_same, u1_at, M_drift, M_clip, M_straight, M_open]⟩
set_option maxRecDepth 20000 in
theorem ct_SH_openAgain {E : En} {h : Hp} {a : Nat} (hk : hK h a = 6) : CR E m_SH_openAgain [.ref a] h (none) (sA h a (M_open (hI h a))) := by
  refine ct_of rfl (by decide +kernel) (Nat.le_of_ble_eq_true rfl) ?_
  show G E m_SH_openAgain 0 [(0, .ref a)] [] h 0 0 _ noX
  refine g_aload_n (pc := 0) d_SH_openAgain_0 rfl 0 rfl ?_
  refine g_iconst (pc := 1) (v := 1) d_SH_openAgain_1 (by decide) ?_
  refine g_putI (pc := 2) (ci := 5) (f := 12) rfl d_SH_openAgain_2 fl_SH_57 (fun q hq => by cases hq; exact rfl) (by rfl) (by rfl) (by decide) (by assumption) ?_
  refine g_aload_n (pc := 5) d_SH_openAgain_5 rfl 0 rfl ?_
  refine g_iconst (pc := 6) (v := 0) d_SH_openAgain_6 (by decide) ?_
  refine g_putI (pc := 7) (ci := 5) (f := 9) rfl d_SH_openAgain_7 fl_SH_42 (fun q hq => by cases hq; exact rfl) rfl rfl (by decide) (by assumption) ?_
  refine g_vret (pc := 10) d_SH_openAgain_10 rfl ?_
  exact ⟨rfl, by simp [sI_sA, sA_sA, hI_sA_same, u1_at, M_drift, M_clip, M_straight, M_open]⟩
