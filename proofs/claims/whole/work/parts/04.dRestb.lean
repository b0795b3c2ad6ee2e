theorem dX10_init_150 : decode cX10_init 150 = .ok (.newarray .int, 2) := by decide +kernel
theorem dX10_init_152 : decode cX10_init 152 = .ok (.putfield 63, 3) := by decide +kernel
theorem dX10_init_155 : decode cX10_init 155 = .ok (.aload_n 0, 1) := by decide +kernel
theorem dX10_init_156 : decode cX10_init 156 = .ok (.bipush 8, 2) := by decide +kernel
theorem dX10_init_158 : decode cX10_init 158 = .ok (.newarray .int, 2) := by decide +kernel
theorem dX10_init_160 : decode cX10_init 160 = .ok (.putfield 66, 3) := by decide +kernel
theorem dX10_init_163 : decode cX10_init 163 = .ok (.return_, 1) := by decide +kernel
theorem dX10_goOnFrom_0 : decode cX10_goOnFrom 0 = .ok (.iconst 0, 1) := by decide +kernel
theorem dX10_goOnFrom_1 : decode cX10_goOnFrom 1 = .ok (.istore_n 2, 1) := by decide +kernel
theorem dX10_goOnFrom_2 : decode cX10_goOnFrom 2 = .ok (.iload_n 2, 1) := by decide +kernel
theorem dX10_goOnFrom_3 : decode cX10_goOnFrom 3 = .ok (.aload_n 1, 1) := by decide +kernel
theorem dX10_goOnFrom_4 : decode cX10_goOnFrom 4 = .ok (.getfield 69, 3) := by decide +kernel
theorem dX10_goOnFrom_7 : decode cX10_goOnFrom 7 = .ok (.if_icmp .ge 28, 3) := by decide +kernel
theorem dX10_goOnFrom_10 : decode cX10_goOnFrom 10 = .ok (.aload_n 1, 1) := by decide +kernel
theorem dX10_goOnFrom_11 : decode cX10_goOnFrom 11 = .ok (.getfield 38, 3) := by decide +kernel
theorem dX10_goOnFrom_14 : decode cX10_goOnFrom 14 = .ok (.iload_n 2, 1) := by decide +kernel
theorem dX10_goOnFrom_15 : decode cX10_goOnFrom 15 = .ok (.aaload, 1) := by decide +kernel
theorem dX10_goOnFrom_16 : decode cX10_goOnFrom 16 = .ok (.iconst 0, 1) := by decide +kernel
theorem dX10_goOnFrom_17 : decode cX10_goOnFrom 17 = .ok (.aload_n 0, 1) := by decide +kernel
theorem dX10_goOnFrom_18 : decode cX10_goOnFrom 18 = .ok (.getfield 38, 3) := by decide +kernel
theorem dX10_goOnFrom_21 : decode cX10_goOnFrom 21 = .ok (.iload_n 2, 1) := by decide +kernel
theorem dX10_goOnFrom_22 : decode cX10_goOnFrom 22 = .ok (.aaload, 1) := by decide +kernel
theorem dX10_goOnFrom_23 : decode cX10_goOnFrom 23 = .ok (.iconst 0, 1) := by decide +kernel
theorem dX10_goOnFrom_24 : decode cX10_goOnFrom 24 = .ok (.bipush 10, 2) := by decide +kernel
theorem dX10_goOnFrom_26 : decode cX10_goOnFrom 26 = .ok (.invokestatic 73, 3) := by decide +kernel
theorem dX10_goOnFrom_29 : decode cX10_goOnFrom 29 = .ok (.iinc 2 1, 3) := by decide +kernel
theorem dX10_goOnFrom_32 : decode cX10_goOnFrom 32 = .ok (.goto (-30), 3) := by decide +kernel
theorem dX10_goOnFrom_35 : decode cX10_goOnFrom 35 = .ok (.aload_n 1, 1) := by decide +kernel
theorem dX10_goOnFrom_36 : decode cX10_goOnFrom 36 = .ok (.getfield 41, 3) := by decide +kernel
theorem dX10_goOnFrom_39 : decode cX10_goOnFrom 39 = .ok (.iconst 0, 1) := by decide +kernel
theorem dX10_goOnFrom_40 : decode cX10_goOnFrom 40 = .ok (.aload_n 0, 1) := by decide +kernel
theorem dX10_goOnFrom_41 : decode cX10_goOnFrom 41 = .ok (.getfield 41, 3) := by decide +kernel
theorem dX10_goOnFrom_44 : decode cX10_goOnFrom 44 = .ok (.iconst 0, 1) := by decide +kernel
theorem dX10_goOnFrom_45 : decode cX10_goOnFrom 45 = .ok (.iconst 4, 1) := by decide +kernel
theorem dX10_goOnFrom_46 : decode cX10_goOnFrom 46 = .ok (.invokestatic 73, 3) := by decide +kernel
theorem dX10_goOnFrom_49 : decode cX10_goOnFrom 49 = .ok (.aload_n 1, 1) := by decide +kernel
theorem dX10_goOnFrom_50 : decode cX10_goOnFrom 50 = .ok (.getfield 45, 3) := by decide +kernel
theorem dX10_goOnFrom_53 : decode cX10_goOnFrom 53 = .ok (.iconst 0, 1) := by decide +kernel
theorem dX10_goOnFrom_54 : decode cX10_goOnFrom 54 = .ok (.aload_n 0, 1) := by decide +kernel
theorem dX10_goOnFrom_55 : decode cX10_goOnFrom 55 = .ok (.getfield 45, 3) := by decide +kernel
theorem dX10_goOnFrom_58 : decode cX10_goOnFrom 58 = .ok (.iconst 0, 1) := by decide +kernel
theorem dX10_goOnFrom_59 : decode cX10_goOnFrom 59 = .ok (.iconst 4, 1) := by decide +kernel
theorem dX10_goOnFrom_60 : decode cX10_goOnFrom 60 = .ok (.invokestatic 73, 3) := by decide +kernel
theorem dX10_goOnFrom_63 : decode cX10_goOnFrom 63 = .ok (.aload_n 0, 1) := by decide +kernel
theorem dX10_goOnFrom_64 : decode cX10_goOnFrom 64 = .ok (.aload_n 1, 1) := by decide +kernel
theorem dX10_goOnFrom_65 : decode cX10_goOnFrom 65 = .ok (.getfield 69, 3) := by decide +kernel
theorem dX10_goOnFrom_68 : decode cX10_goOnFrom 68 = .ok (.putfield 69, 3) := by decide +kernel
theorem dX10_goOnFrom_71 : decode cX10_goOnFrom 71 = .ok (.aload_n 0, 1) := by decide +kernel
theorem dX10_goOnFrom_72 : decode cX10_goOnFrom 72 = .ok (.aload_n 1, 1) := by decide +kernel
theorem dX10_goOnFrom_73 : decode cX10_goOnFrom 73 = .ok (.getfield 79, 3) := by decide +kernel
theorem dX10_goOnFrom_76 : decode cX10_goOnFrom 76 = .ok (.putfield 79, 3) := by decide +kernel
theorem dX10_goOnFrom_79 : decode cX10_goOnFrom 79 = .ok (.aload_n 0, 1) := by decide +kernel
theorem dX10_goOnFrom_80 : decode cX10_goOnFrom 80 = .ok (.aload_n 1, 1) := by decide +kernel
theorem dX10_goOnFrom_81 : decode cX10_goOnFrom 81 = .ok (.getfield 82, 3) := by decide +kernel
theorem dX10_goOnFrom_84 : decode cX10_goOnFrom 84 = .ok (.putfield 82, 3) := by decide +kernel
theorem dX10_goOnFrom_87 : decode cX10_goOnFrom 87 = .ok (.return_, 1) := by decide +kernel
theorem dX10_copyRowsOf_0 : decode cX10_copyRowsOf 0 = .ok (.aload_n 1, 1) := by decide +kernel
theorem dX10_copyRowsOf_1 : decode cX10_copyRowsOf 1 = .ok (.getfield 48, 3) := by decide +kernel
theorem dX10_copyRowsOf_4 : decode cX10_copyRowsOf 4 = .ok (.iconst 0, 1) := by decide +kernel
theorem dX10_copyRowsOf_5 : decode cX10_copyRowsOf 5 = .ok (.aload_n 0, 1) := by decide +kernel
theorem dX10_copyRowsOf_6 : decode cX10_copyRowsOf 6 = .ok (.getfield 48, 3) := by decide +kernel
theorem dX10_copyRowsOf_9 : decode cX10_copyRowsOf 9 = .ok (.iconst 0, 1) := by decide +kernel
theorem dX10_copyRowsOf_10 : decode cX10_copyRowsOf 10 = .ok (.iconst 5, 1) := by decide +kernel
theorem dX10_copyRowsOf_11 : decode cX10_copyRowsOf 11 = .ok (.invokestatic 73, 3) := by decide +kernel
theorem dX10_copyRowsOf_14 : decode cX10_copyRowsOf 14 = .ok (.aload_n 1, 1) := by decide +kernel
theorem dX10_copyRowsOf_15 : decode cX10_copyRowsOf 15 = .ok (.getfield 51, 3) := by decide +kernel
theorem dX10_copyRowsOf_18 : decode cX10_copyRowsOf 18 = .ok (.iconst 0, 1) := by decide +kernel
theorem dX10_copyRowsOf_19 : decode cX10_copyRowsOf 19 = .ok (.aload_n 0, 1) := by decide +kernel
theorem dX10_copyRowsOf_20 : decode cX10_copyRowsOf 20 = .ok (.getfield 51, 3) := by decide +kernel
theorem dX10_copyRowsOf_23 : decode cX10_copyRowsOf 23 = .ok (.iconst 0, 1) := by decide +kernel
theorem dX10_copyRowsOf_24 : decode cX10_copyRowsOf 24 = .ok (.iconst 5, 1) := by decide +kernel
theorem dX10_copyRowsOf_25 : decode cX10_copyRowsOf 25 = .ok (.invokestatic 73, 3) := by decide +kernel
theorem dX10_copyRowsOf_28 : decode cX10_copyRowsOf 28 = .ok (.aload_n 1, 1) := by decide +kernel
theorem dX10_copyRowsOf_29 : decode cX10_copyRowsOf 29 = .ok (.getfield 54, 3) := by decide +kernel
theorem dX10_copyRowsOf_32 : decode cX10_copyRowsOf 32 = .ok (.iconst 0, 1) := by decide +kernel
theorem dX10_copyRowsOf_33 : decode cX10_copyRowsOf 33 = .ok (.aload_n 0, 1) := by decide +kernel
theorem dX10_copyRowsOf_34 : decode cX10_copyRowsOf 34 = .ok (.getfield 54, 3) := by decide +kernel
theorem dX10_copyRowsOf_37 : decode cX10_copyRowsOf 37 = .ok (.iconst 0, 1) := by decide +kernel
theorem dX10_copyRowsOf_38 : decode cX10_copyRowsOf 38 = .ok (.iconst 5, 1) := by decide +kernel
theorem dX10_copyRowsOf_39 : decode cX10_copyRowsOf 39 = .ok (.invokestatic 73, 3) := by decide +kernel
theorem dX10_copyRowsOf_42 : decode cX10_copyRowsOf 42 = .ok (.aload_n 1, 1) := by decide +kernel
theorem dX10_copyRowsOf_43 : decode cX10_copyRowsOf 43 = .ok (.getfield 57, 3) := by decide +kernel
theorem dX10_copyRowsOf_46 : decode cX10_copyRowsOf 46 = .ok (.iconst 0, 1) := by decide +kernel
theorem dX10_copyRowsOf_47 : decode cX10_copyRowsOf 47 = .ok (.aload_n 0, 1) := by decide +kernel
theorem dX10_copyRowsOf_48 : decode cX10_copyRowsOf 48 = .ok (.getfield 57, 3) := by decide +kernel
theorem dX10_copyRowsOf_51 : decode cX10_copyRowsOf 51 = .ok (.iconst 0, 1) := by decide +kernel
theorem dX10_copyRowsOf_52 : decode cX10_copyRowsOf 52 = .ok (.bipush 10, 2) := by decide +kernel
theorem dX10_copyRowsOf_54 : decode cX10_copyRowsOf 54 = .ok (.invokestatic 73, 3) := by decide +kernel
theorem dX10_copyRowsOf_57 : decode cX10_copyRowsOf 57 = .ok (.aload_n 1, 1) := by decide +kernel
theorem dX10_copyRowsOf_58 : decode cX10_copyRowsOf 58 = .ok (.getfield 60, 3) := by decide +kernel
theorem dX10_copyRowsOf_61 : decode cX10_copyRowsOf 61 = .ok (.iconst 0, 1) := by decide +kernel
theorem dX10_copyRowsOf_62 : decode cX10_copyRowsOf 62 = .ok (.aload_n 0, 1) := by decide +kernel
theorem dX10_copyRowsOf_63 : decode cX10_copyRowsOf 63 = .ok (.getfield 60, 3) := by decide +kernel
theorem dX10_copyRowsOf_66 : decode cX10_copyRowsOf 66 = .ok (.iconst 0, 1) := by decide +kernel
theorem dX10_copyRowsOf_67 : decode cX10_copyRowsOf 67 = .ok (.bipush 10, 2) := by decide +kernel
theorem dX10_copyRowsOf_69 : decode cX10_copyRowsOf 69 = .ok (.invokestatic 73, 3) := by decide +kernel
theorem dX10_copyRowsOf_72 : decode cX10_copyRowsOf 72 = .ok (.aload_n 1, 1) := by decide +kernel
theorem dX10_copyRowsOf_73 : decode cX10_copyRowsOf 73 = .ok (.getfield 63, 3) := by decide +kernel
theorem dX10_copyRowsOf_76 : decode cX10_copyRowsOf 76 = .ok (.iconst 0, 1) := by decide +kernel
theorem dX10_copyRowsOf_77 : decode cX10_copyRowsOf 77 = .ok (.aload_n 0, 1) := by decide +kernel
theorem dX10_copyRowsOf_78 : decode cX10_copyRowsOf 78 = .ok (.getfield 63, 3) := by decide +kernel
theorem dX10_copyRowsOf_81 : decode cX10_copyRowsOf 81 = .ok (.iconst 0, 1) := by decide +kernel
theorem dX10_copyRowsOf_82 : decode cX10_copyRowsOf 82 = .ok (.bipush 8, 2) := by decide +kernel
theorem dX10_copyRowsOf_84 : decode cX10_copyRowsOf 84 = .ok (.invokestatic 73, 3) := by decide +kernel
theorem dX10_copyRowsOf_87 : decode cX10_copyRowsOf 87 = .ok (.aload_n 1, 1) := by decide +kernel
theorem dX10_copyRowsOf_88 : decode cX10_copyRowsOf 88 = .ok (.getfield 66, 3) := by decide +kernel
theorem dX10_copyRowsOf_91 : decode cX10_copyRowsOf 91 = .ok (.iconst 0, 1) := by decide +kernel
theorem dX10_copyRowsOf_92 : decode cX10_copyRowsOf 92 = .ok (.aload_n 0, 1) := by decide +kernel
theorem dX10_copyRowsOf_93 : decode cX10_copyRowsOf 93 = .ok (.getfield 66, 3) := by decide +kernel
theorem dX10_copyRowsOf_96 : decode cX10_copyRowsOf 96 = .ok (.iconst 0, 1) := by decide +kernel
theorem dX10_copyRowsOf_97 : decode cX10_copyRowsOf 97 = .ok (.bipush 8, 2) := by decide +kernel
theorem dX10_copyRowsOf_99 : decode cX10_copyRowsOf 99 = .ok (.invokestatic 73, 3) := by decide +kernel
theorem dX10_copyRowsOf_102 : decode cX10_copyRowsOf 102 = .ok (.aload_n 0, 1) := by decide +kernel
theorem dX10_copyRowsOf_103 : decode cX10_copyRowsOf 103 = .ok (.aload_n 1, 1) := by decide +kernel
theorem dX10_copyRowsOf_104 : decode cX10_copyRowsOf 104 = .ok (.getfield 86, 3) := by decide +kernel
theorem dX10_copyRowsOf_107 : decode cX10_copyRowsOf 107 = .ok (.putfield 86, 3) := by decide +kernel
theorem dX10_copyRowsOf_110 : decode cX10_copyRowsOf 110 = .ok (.aload_n 0, 1) := by decide +kernel
theorem dX10_copyRowsOf_111 : decode cX10_copyRowsOf 111 = .ok (.aload_n 1, 1) := by decide +kernel
theorem dX10_copyRowsOf_112 : decode cX10_copyRowsOf 112 = .ok (.getfield 89, 3) := by decide +kernel
theorem dX10_copyRowsOf_115 : decode cX10_copyRowsOf 115 = .ok (.putfield 89, 3) := by decide +kernel
theorem dX10_copyRowsOf_118 : decode cX10_copyRowsOf 118 = .ok (.aload_n 0, 1) := by decide +kernel
theorem dX10_copyRowsOf_119 : decode cX10_copyRowsOf 119 = .ok (.aload_n 1, 1) := by decide +kernel
theorem dX10_copyRowsOf_120 : decode cX10_copyRowsOf 120 = .ok (.getfield 92, 3) := by decide +kernel
theorem dX10_copyRowsOf_123 : decode cX10_copyRowsOf 123 = .ok (.putfield 92, 3) := by decide +kernel
theorem dX10_copyRowsOf_126 : decode cX10_copyRowsOf 126 = .ok (.return_, 1) := by decide +kernel
theorem dX10_addRocket_0 : decode cX10_addRocket 0 = .ok (.aload_n 0, 1) := by decide +kernel
theorem dX10_addRocket_1 : decode cX10_addRocket 1 = .ok (.getfield 38, 3) := by decide +kernel
theorem dX10_addRocket_4 : decode cX10_addRocket 4 = .ok (.aload_n 0, 1) := by decide +kernel
theorem dX10_addRocket_5 : decode cX10_addRocket 5 = .ok (.getfield 69, 3) := by decide +kernel
theorem dX10_addRocket_8 : decode cX10_addRocket 8 = .ok (.aaload, 1) := by decide +kernel
theorem dX10_addRocket_9 : decode cX10_addRocket 9 = .ok (.astore 5, 2) := by decide +kernel
theorem dX10_addRocket_11 : decode cX10_addRocket 11 = .ok (.aload 5, 2) := by decide +kernel
theorem dX10_addRocket_13 : decode cX10_addRocket 13 = .ok (.iconst 0, 1) := by decide +kernel
theorem dX10_addRocket_14 : decode cX10_addRocket 14 = .ok (.invokestatic 95, 3) := by decide +kernel
theorem dX10_addRocket_17 : decode cX10_addRocket 17 = .ok (.aload 5, 2) := by decide +kernel
theorem dX10_addRocket_19 : decode cX10_addRocket 19 = .ok (.iconst 0, 1) := by decide +kernel
theorem dX10_addRocket_20 : decode cX10_addRocket 20 = .ok (.iload_n 1, 1) := by decide +kernel
theorem dX10_addRocket_21 : decode cX10_addRocket 21 = .ok (.iastore, 1) := by decide +kernel
theorem dX10_addRocket_22 : decode cX10_addRocket 22 = .ok (.aload 5, 2) := by decide +kernel
theorem dX10_addRocket_24 : decode cX10_addRocket 24 = .ok (.iconst 1, 1) := by decide +kernel
theorem dX10_addRocket_25 : decode cX10_addRocket 25 = .ok (.iload_n 2, 1) := by decide +kernel
theorem dX10_addRocket_26 : decode cX10_addRocket 26 = .ok (.iastore, 1) := by decide +kernel
theorem dX10_addRocket_27 : decode cX10_addRocket 27 = .ok (.aload 5, 2) := by decide +kernel
theorem dX10_addRocket_29 : decode cX10_addRocket 29 = .ok (.iconst 2, 1) := by decide +kernel
theorem dX10_addRocket_30 : decode cX10_addRocket 30 = .ok (.iload_n 3, 1) := by decide +kernel
theorem dX10_addRocket_31 : decode cX10_addRocket 31 = .ok (.iastore, 1) := by decide +kernel
theorem dX10_addRocket_32 : decode cX10_addRocket 32 = .ok (.aload 5, 2) := by decide +kernel
theorem dX10_addRocket_34 : decode cX10_addRocket 34 = .ok (.iconst 3, 1) := by decide +kernel
theorem dX10_addRocket_35 : decode cX10_addRocket 35 = .ok (.iload 4, 2) := by decide +kernel
theorem dX10_addRocket_37 : decode cX10_addRocket 37 = .ok (.iastore, 1) := by decide +kernel
theorem dX10_addRocket_38 : decode cX10_addRocket 38 = .ok (.aload_n 0, 1) := by decide +kernel
theorem dX10_addRocket_39 : decode cX10_addRocket 39 = .ok (.dup, 1) := by decide +kernel
theorem dX10_addRocket_40 : decode cX10_addRocket 40 = .ok (.getfield 69, 3) := by decide +kernel
theorem dX10_addRocket_43 : decode cX10_addRocket 43 = .ok (.iconst 1, 1) := by decide +kernel
theorem dX10_addRocket_44 : decode cX10_addRocket 44 = .ok (.iadd, 1) := by decide +kernel
theorem dX10_addRocket_45 : decode cX10_addRocket 45 = .ok (.putfield 69, 3) := by decide +kernel
theorem dX10_addRocket_48 : decode cX10_addRocket 48 = .ok (.aload_n 0, 1) := by decide +kernel
theorem dX10_addRocket_49 : decode cX10_addRocket 49 = .ok (.getfield 69, 3) := by decide +kernel
theorem dX10_addRocket_52 : decode cX10_addRocket 52 = .ok (.iconst 1, 1) := by decide +kernel
theorem dX10_addRocket_53 : decode cX10_addRocket 53 = .ok (.isub, 1) := by decide +kernel
theorem dX10_addRocket_54 : decode cX10_addRocket 54 = .ok (.ireturn, 1) := by decide +kernel
theorem dX10_has_0 : decode cX10_has 0 = .ok (.iload_n 1, 1) := by decide +kernel
theorem dX10_has_1 : decode cX10_has 1 = .ok (.aload_n 0, 1) := by decide +kernel
theorem dX10_has_2 : decode cX10_has 2 = .ok (.getfield 69, 3) := by decide +kernel
theorem dX10_has_5 : decode cX10_has 5 = .ok (.iconst 1, 1) := by decide +kernel
theorem dX10_has_6 : decode cX10_has 6 = .ok (.isub, 1) := by decide +kernel
theorem dX10_has_7 : decode cX10_has 7 = .ok (.invokestatic 101, 3) := by decide +kernel
theorem dX10_has_10 : decode cX10_has 10 = .ok (.ireturn, 1) := by decide +kernel
theorem dX10_isUnlit_0 : decode cX10_isUnlit 0 = .ok (.aload_n 0, 1) := by decide +kernel
theorem dX10_isUnlit_1 : decode cX10_isUnlit 1 = .ok (.getfield 38, 3) := by decide +kernel
theorem dX10_isUnlit_4 : decode cX10_isUnlit 4 = .ok (.iload_n 1, 1) := by decide +kernel
theorem dX10_isUnlit_5 : decode cX10_isUnlit 5 = .ok (.aaload, 1) := by decide +kernel
theorem dX10_isUnlit_6 : decode cX10_isUnlit 6 = .ok (.iconst 5, 1) := by decide +kernel
theorem dX10_isUnlit_7 : decode cX10_isUnlit 7 = .ok (.iaload, 1) := by decide +kernel
theorem dX10_isUnlit_8 : decode cX10_isUnlit 8 = .ok (.ifCond .ne 7, 3) := by decide +kernel
theorem dX10_isUnlit_11 : decode cX10_isUnlit 11 = .ok (.iconst 1, 1) := by decide +kernel
theorem dX10_isUnlit_12 : decode cX10_isUnlit 12 = .ok (.goto 4, 3) := by decide +kernel
theorem dX10_isUnlit_15 : decode cX10_isUnlit 15 = .ok (.iconst 0, 1) := by decide +kernel
theorem dX10_isUnlit_16 : decode cX10_isUnlit 16 = .ok (.ireturn, 1) := by decide +kernel
theorem dX10_rainNow_0 : decode cX10_rainNow 0 = .ok (.aload_n 0, 1) := by decide +kernel
theorem dX10_rainNow_1 : decode cX10_rainNow 1 = .ok (.getfield 45, 3) := by decide +kernel
theorem dX10_rainNow_4 : decode cX10_rainNow 4 = .ok (.aload_n 0, 1) := by decide +kernel
theorem dX10_rainNow_5 : decode cX10_rainNow 5 = .ok (.getfield 79, 3) := by decide +kernel
theorem dX10_rainNow_8 : decode cX10_rainNow 8 = .ok (.iconst 4, 1) := by decide +kernel
theorem dX10_rainNow_9 : decode cX10_rainNow 9 = .ok (.irem, 1) := by decide +kernel
theorem dX10_rainNow_10 : decode cX10_rainNow 10 = .ok (.iaload, 1) := by decide +kernel
theorem dX10_rainNow_11 : decode cX10_rainNow 11 = .ok (.ireturn, 1) := by decide +kernel
theorem dX10_dryness_0 : decode cX10_dryness 0 = .ok (.aload_n 0, 1) := by decide +kernel
theorem dX10_dryness_1 : decode cX10_dryness 1 = .ok (.getfield 82, 3) := by decide +kernel
theorem dX10_dryness_4 : decode cX10_dryness 4 = .ok (.ifnonnull 7, 3) := by decide +kernel
theorem dX10_dryness_7 : decode cX10_dryness 7 = .ok (.iconst 2, 1) := by decide +kernel
theorem dX10_dryness_8 : decode cX10_dryness 8 = .ok (.goto 10, 3) := by decide +kernel
theorem dX10_dryness_11 : decode cX10_dryness 11 = .ok (.aload_n 0, 1) := by decide +kernel
theorem dX10_dryness_12 : decode cX10_dryness 12 = .ok (.getfield 82, 3) := by decide +kernel
theorem dX10_dryness_15 : decode cX10_dryness 15 = .ok (.getfield 105, 3) := by decide +kernel
theorem dX10_dryness_18 : decode cX10_dryness 18 = .ok (.ireturn, 1) := by decide +kernel
theorem dX10_brightness_0 : decode cX10_brightness 0 = .ok (.aload_n 0, 1) := by decide +kernel
theorem dX10_brightness_1 : decode cX10_brightness 1 = .ok (.getfield 38, 3) := by decide +kernel
theorem dX10_brightness_4 : decode cX10_brightness 4 = .ok (.iload_n 1, 1) := by decide +kernel
theorem dX10_brightness_5 : decode cX10_brightness 5 = .ok (.aaload, 1) := by decide +kernel
theorem dX10_brightness_6 : decode cX10_brightness 6 = .ok (.astore_n 2, 1) := by decide +kernel
theorem dX10_brightness_7 : decode cX10_brightness 7 = .ok (.iconst 2, 1) := by decide +kernel
theorem dX10_brightness_8 : decode cX10_brightness 8 = .ok (.aload_n 2, 1) := by decide +kernel
theorem dX10_brightness_9 : decode cX10_brightness 9 = .ok (.iconst 2, 1) := by decide +kernel
theorem dX10_brightness_10 : decode cX10_brightness 10 = .ok (.iaload, 1) := by decide +kernel
theorem dX10_brightness_11 : decode cX10_brightness 11 = .ok (.imul, 1) := by decide +kernel
theorem dX10_brightness_12 : decode cX10_brightness 12 = .ok (.aload_n 2, 1) := by decide +kernel
theorem dX10_brightness_13 : decode cX10_brightness 13 = .ok (.iconst 4, 1) := by decide +kernel
theorem dX10_brightness_14 : decode cX10_brightness 14 = .ok (.iaload, 1) := by decide +kernel
theorem dX10_brightness_15 : decode cX10_brightness 15 = .ok (.bipush 10, 2) := by decide +kernel
theorem dX10_brightness_17 : decode cX10_brightness 17 = .ok (.idiv, 1) := by decide +kernel
theorem dX10_brightness_18 : decode cX10_brightness 18 = .ok (.isub, 1) := by decide +kernel
theorem dX10_brightness_19 : decode cX10_brightness 19 = .ok (.istore_n 3, 1) := by decide +kernel
theorem dX10_brightness_20 : decode cX10_brightness 20 = .ok (.aload_n 0, 1) := by decide +kernel
theorem dX10_brightness_21 : decode cX10_brightness 21 = .ok (.getfield 82, 3) := by decide +kernel
theorem dX10_brightness_24 : decode cX10_brightness 24 = .ok (.ifnull 19, 3) := by decide +kernel
theorem dX10_brightness_27 : decode cX10_brightness 27 = .ok (.iload_n 3, 1) := by decide +kernel
theorem dX10_brightness_28 : decode cX10_brightness 28 = .ok (.aload_n 0, 1) := by decide +kernel
theorem dX10_brightness_29 : decode cX10_brightness 29 = .ok (.getfield 82, 3) := by decide +kernel
theorem dX10_brightness_32 : decode cX10_brightness 32 = .ok (.iload_n 1, 1) := by decide +kernel
theorem dX10_brightness_33 : decode cX10_brightness 33 = .ok (.aload_n 2, 1) := by decide +kernel
theorem dX10_brightness_34 : decode cX10_brightness 34 = .ok (.aload_n 0, 1) := by decide +kernel
theorem dX10_brightness_35 : decode cX10_brightness 35 = .ok (.getfield 79, 3) := by decide +kernel
theorem dX10_brightness_38 : decode cX10_brightness 38 = .ok (.invokevirtual 110, 3) := by decide +kernel
theorem dX10_brightness_41 : decode cX10_brightness 41 = .ok (.iadd, 1) := by decide +kernel
theorem dX10_brightness_42 : decode cX10_brightness 42 = .ok (.istore_n 3, 1) := by decide +kernel
theorem dX10_brightness_43 : decode cX10_brightness 43 = .ok (.aload_n 0, 1) := by decide +kernel
theorem dX10_brightness_44 : decode cX10_brightness 44 = .ok (.getfield 30, 3) := by decide +kernel
theorem dX10_brightness_47 : decode cX10_brightness 47 = .ok (.aload_n 2, 1) := by decide +kernel
theorem dX10_brightness_48 : decode cX10_brightness 48 = .ok (.iconst 0, 1) := by decide +kernel
theorem dX10_brightness_49 : decode cX10_brightness 49 = .ok (.iaload, 1) := by decide +kernel
theorem dX10_brightness_50 : decode cX10_brightness 50 = .ok (.aaload, 1) := by decide +kernel
theorem dX10_brightness_51 : decode cX10_brightness 51 = .ok (.aload_n 0, 1) := by decide +kernel
theorem dX10_brightness_52 : decode cX10_brightness 52 = .ok (.aload_n 2, 1) := by decide +kernel
theorem dX10_brightness_53 : decode cX10_brightness 53 = .ok (.iload_n 3, 1) := by decide +kernel
theorem dX10_brightness_54 : decode cX10_brightness 54 = .ok (.invokevirtual 114, 3) := by decide +kernel
theorem dX10_brightness_57 : decode cX10_brightness 57 = .ok (.ireturn, 1) := by decide +kernel
theorem dX10_ignite_0 : decode cX10_ignite 0 = .ok (.aload_n 0, 1) := by decide +kernel
theorem dX10_ignite_1 : decode cX10_ignite 1 = .ok (.getfield 38, 3) := by decide +kernel
theorem dX10_ignite_4 : decode cX10_ignite 4 = .ok (.iload_n 1, 1) := by decide +kernel
theorem dX10_ignite_5 : decode cX10_ignite 5 = .ok (.aaload, 1) := by decide +kernel
theorem dX10_ignite_6 : decode cX10_ignite 6 = .ok (.astore_n 2, 1) := by decide +kernel
theorem dX10_ignite_7 : decode cX10_ignite 7 = .ok (.aload_n 0, 1) := by decide +kernel
theorem dX10_ignite_8 : decode cX10_ignite 8 = .ok (.iload_n 1, 1) := by decide +kernel
theorem dX10_ignite_9 : decode cX10_ignite 9 = .ok (.invokevirtual 118, 3) := by decide +kernel
theorem dX10_ignite_12 : decode cX10_ignite 12 = .ok (.istore_n 3, 1) := by decide +kernel
theorem dX10_ignite_13 : decode cX10_ignite 13 = .ok (.iload_n 3, 1) := by decide +kernel
theorem dX10_ignite_14 : decode cX10_ignite 14 = .ok (.ifCond .le 28, 3) := by decide +kernel
theorem dX10_ignite_17 : decode cX10_ignite 17 = .ok (.aload_n 2, 1) := by decide +kernel
theorem dX10_ignite_18 : decode cX10_ignite 18 = .ok (.iconst 3, 1) := by decide +kernel
theorem dX10_ignite_19 : decode cX10_ignite 19 = .ok (.iaload, 1) := by decide +kernel
theorem dX10_ignite_20 : decode cX10_ignite 20 = .ok (.istore 4, 2) := by decide +kernel
theorem dX10_ignite_22 : decode cX10_ignite 22 = .ok (.aload_n 0, 1) := by decide +kernel
theorem dX10_ignite_23 : decode cX10_ignite 23 = .ok (.getfield 41, 3) := by decide +kernel
theorem dX10_ignite_26 : decode cX10_ignite 26 = .ok (.iload 4, 2) := by decide +kernel
theorem dX10_ignite_28 : decode cX10_ignite 28 = .ok (.iconst 0, 1) := by decide +kernel
theorem dX10_ignite_29 : decode cX10_ignite 29 = .ok (.aload_n 0, 1) := by decide +kernel
theorem dX10_ignite_30 : decode cX10_ignite 30 = .ok (.getfield 41, 3) := by decide +kernel
theorem dX10_ignite_33 : decode cX10_ignite 33 = .ok (.iload 4, 2) := by decide +kernel
theorem dX10_ignite_35 : decode cX10_ignite 35 = .ok (.iaload, 1) := by decide +kernel
theorem dX10_ignite_36 : decode cX10_ignite 36 = .ok (.iload_n 3, 1) := by decide +kernel
theorem dX10_ignite_37 : decode cX10_ignite 37 = .ok (.isub, 1) := by decide +kernel
theorem dX10_ignite_38 : decode cX10_ignite 38 = .ok (.invokestatic 121, 3) := by decide +kernel
theorem dX10_ignite_41 : decode cX10_ignite 41 = .ok (.iastore, 1) := by decide +kernel
theorem dX10_ignite_42 : decode cX10_ignite 42 = .ok (.aload_n 2, 1) := by decide +kernel
theorem dX10_ignite_43 : decode cX10_ignite 43 = .ok (.iconst 5, 1) := by decide +kernel
theorem dX10_ignite_44 : decode cX10_ignite 44 = .ok (.iload_n 3, 1) := by decide +kernel
theorem dX10_ignite_45 : decode cX10_ignite 45 = .ok (.ifCond .le 7, 3) := by decide +kernel
theorem dX10_ignite_48 : decode cX10_ignite 48 = .ok (.iconst 2, 1) := by decide +kernel
theorem dX10_ignite_49 : decode cX10_ignite 49 = .ok (.goto 4, 3) := by decide +kernel
theorem dX10_ignite_52 : decode cX10_ignite 52 = .ok (.iconst 1, 1) := by decide +kernel
theorem dX10_ignite_53 : decode cX10_ignite 53 = .ok (.iastore, 1) := by decide +kernel
theorem dX10_ignite_54 : decode cX10_ignite 54 = .ok (.aload_n 2, 1) := by decide +kernel
theorem dX10_ignite_55 : decode cX10_ignite 55 = .ok (.iconst 5, 1) := by decide +kernel
theorem dX10_ignite_56 : decode cX10_ignite 56 = .ok (.iaload, 1) := by decide +kernel
theorem dX10_ignite_57 : decode cX10_ignite 57 = .ok (.ireturn, 1) := by decide +kernel
theorem dX10_igniteAll_0 : decode cX10_igniteAll 0 = .ok (.iconst 0, 1) := by decide +kernel
theorem dX10_igniteAll_1 : decode cX10_igniteAll 1 = .ok (.istore_n 2, 1) := by decide +kernel
theorem dX10_igniteAll_2 : decode cX10_igniteAll 2 = .ok (.iload_n 2, 1) := by decide +kernel
theorem dX10_igniteAll_3 : decode cX10_igniteAll 3 = .ok (.aload_n 0, 1) := by decide +kernel
theorem dX10_igniteAll_4 : decode cX10_igniteAll 4 = .ok (.getfield 69, 3) := by decide +kernel
theorem dX10_igniteAll_7 : decode cX10_igniteAll 7 = .ok (.if_icmp .ge 23, 3) := by decide +kernel
theorem dX10_igniteAll_10 : decode cX10_igniteAll 10 = .ok (.iload_n 1, 1) := by decide +kernel
theorem dX10_igniteAll_11 : decode cX10_igniteAll 11 = .ok (.iload_n 2, 1) := by decide +kernel
theorem dX10_igniteAll_12 : decode cX10_igniteAll 12 = .ok (.ishr, 1) := by decide +kernel
theorem dX10_igniteAll_13 : decode cX10_igniteAll 13 = .ok (.iconst 1, 1) := by decide +kernel
theorem dX10_igniteAll_14 : decode cX10_igniteAll 14 = .ok (.iand, 1) := by decide +kernel
theorem dX10_igniteAll_15 : decode cX10_igniteAll 15 = .ok (.ifCond .eq 9, 3) := by decide +kernel
theorem dX10_igniteAll_18 : decode cX10_igniteAll 18 = .ok (.aload_n 0, 1) := by decide +kernel
theorem dX10_igniteAll_19 : decode cX10_igniteAll 19 = .ok (.iload_n 2, 1) := by decide +kernel
theorem dX10_igniteAll_20 : decode cX10_igniteAll 20 = .ok (.invokevirtual 127, 3) := by decide +kernel
theorem dX10_igniteAll_23 : decode cX10_igniteAll 23 = .ok (.pop, 1) := by decide +kernel
theorem dX10_igniteAll_24 : decode cX10_igniteAll 24 = .ok (.iinc 2 1, 3) := by decide +kernel
theorem dX10_igniteAll_27 : decode cX10_igniteAll 27 = .ok (.goto (-25), 3) := by decide +kernel
theorem dX10_igniteAll_30 : decode cX10_igniteAll 30 = .ok (.return_, 1) := by decide +kernel
theorem dX10_minutesGo_0 : decode cX10_minutesGo 0 = .ok (.iconst 0, 1) := by decide +kernel
theorem dX10_minutesGo_1 : decode cX10_minutesGo 1 = .ok (.istore_n 2, 1) := by decide +kernel
theorem dX10_minutesGo_2 : decode cX10_minutesGo 2 = .ok (.iload_n 2, 1) := by decide +kernel
theorem dX10_minutesGo_3 : decode cX10_minutesGo 3 = .ok (.iload_n 1, 1) := by decide +kernel
theorem dX10_minutesGo_4 : decode cX10_minutesGo 4 = .ok (.if_icmp .ge 91, 3) := by decide +kernel
theorem dX10_minutesGo_7 : decode cX10_minutesGo 7 = .ok (.iconst 3, 1) := by decide +kernel
theorem dX10_minutesGo_8 : decode cX10_minutesGo 8 = .ok (.aload_n 0, 1) := by decide +kernel
theorem dX10_minutesGo_9 : decode cX10_minutesGo 9 = .ok (.invokevirtual 130, 3) := by decide +kernel
theorem dX10_minutesGo_12 : decode cX10_minutesGo 12 = .ok (.imul, 1) := by decide +kernel
theorem dX10_minutesGo_13 : decode cX10_minutesGo 13 = .ok (.aload_n 0, 1) := by decide +kernel
theorem dX10_minutesGo_14 : decode cX10_minutesGo 14 = .ok (.invokevirtual 134, 3) := by decide +kernel
theorem dX10_minutesGo_17 : decode cX10_minutesGo 17 = .ok (.isub, 1) := by decide +kernel
theorem dX10_minutesGo_18 : decode cX10_minutesGo 18 = .ok (.istore_n 3, 1) := by decide +kernel
theorem dX10_minutesGo_19 : decode cX10_minutesGo 19 = .ok (.iconst 0, 1) := by decide +kernel
theorem dX10_minutesGo_20 : decode cX10_minutesGo 20 = .ok (.istore 4, 2) := by decide +kernel
theorem dX10_minutesGo_22 : decode cX10_minutesGo 22 = .ok (.iload 4, 2) := by decide +kernel
theorem dX10_minutesGo_24 : decode cX10_minutesGo 24 = .ok (.aload_n 0, 1) := by decide +kernel
theorem dX10_minutesGo_25 : decode cX10_minutesGo 25 = .ok (.getfield 69, 3) := by decide +kernel
theorem dX10_minutesGo_28 : decode cX10_minutesGo 28 = .ok (.if_icmp .ge 51, 3) := by decide +kernel
theorem dX10_minutesGo_31 : decode cX10_minutesGo 31 = .ok (.aload_n 0, 1) := by decide +kernel
theorem dX10_minutesGo_32 : decode cX10_minutesGo 32 = .ok (.iload 4, 2) := by decide +kernel
theorem dX10_minutesGo_34 : decode cX10_minutesGo 34 = .ok (.invokevirtual 137, 3) := by decide +kernel
theorem dX10_minutesGo_37 : decode cX10_minutesGo 37 = .ok (.ifCond .eq 36, 3) := by decide +kernel
theorem dX10_minutesGo_40 : decode cX10_minutesGo 40 = .ok (.aload_n 0, 1) := by decide +kernel
theorem dX10_minutesGo_41 : decode cX10_minutesGo 41 = .ok (.getfield 38, 3) := by decide +kernel
theorem dX10_minutesGo_44 : decode cX10_minutesGo 44 = .ok (.iload 4, 2) := by decide +kernel
theorem dX10_minutesGo_46 : decode cX10_minutesGo 46 = .ok (.aaload, 1) := by decide +kernel
theorem dX10_minutesGo_47 : decode cX10_minutesGo 47 = .ok (.iconst 4, 1) := by decide +kernel
theorem dX10_minutesGo_48 : decode cX10_minutesGo 48 = .ok (.iaload, 1) := by decide +kernel
theorem dX10_minutesGo_49 : decode cX10_minutesGo 49 = .ok (.iload_n 3, 1) := by decide +kernel
theorem dX10_minutesGo_50 : decode cX10_minutesGo 50 = .ok (.iadd, 1) := by decide +kernel
theorem dX10_minutesGo_51 : decode cX10_minutesGo 51 = .ok (.istore 5, 2) := by decide +kernel
theorem dX10_minutesGo_53 : decode cX10_minutesGo 53 = .ok (.aload_n 0, 1) := by decide +kernel
theorem dX10_minutesGo_54 : decode cX10_minutesGo 54 = .ok (.getfield 38, 3) := by decide +kernel
theorem dX10_minutesGo_57 : decode cX10_minutesGo 57 = .ok (.iload 4, 2) := by decide +kernel
theorem dX10_minutesGo_59 : decode cX10_minutesGo 59 = .ok (.aaload, 1) := by decide +kernel
theorem dX10_minutesGo_60 : decode cX10_minutesGo 60 = .ok (.iconst 4, 1) := by decide +kernel
theorem dX10_minutesGo_61 : decode cX10_minutesGo 61 = .ok (.iconst 0, 1) := by decide +kernel
theorem dX10_minutesGo_62 : decode cX10_minutesGo 62 = .ok (.bipush 99, 2) := by decide +kernel
theorem dX10_minutesGo_64 : decode cX10_minutesGo 64 = .ok (.iload 5, 2) := by decide +kernel
theorem dX10_minutesGo_66 : decode cX10_minutesGo 66 = .ok (.invokestatic 141, 3) := by decide +kernel
theorem dX10_minutesGo_69 : decode cX10_minutesGo 69 = .ok (.invokestatic 121, 3) := by decide +kernel
theorem dX10_minutesGo_72 : decode cX10_minutesGo 72 = .ok (.iastore, 1) := by decide +kernel
theorem dX10_minutesGo_73 : decode cX10_minutesGo 73 = .ok (.iinc 4 1, 3) := by decide +kernel
theorem dX10_minutesGo_76 : decode cX10_minutesGo 76 = .ok (.goto (-54), 3) := by decide +kernel
theorem dX10_minutesGo_79 : decode cX10_minutesGo 79 = .ok (.aload_n 0, 1) := by decide +kernel
theorem dX10_minutesGo_80 : decode cX10_minutesGo 80 = .ok (.dup, 1) := by decide +kernel
theorem dX10_minutesGo_81 : decode cX10_minutesGo 81 = .ok (.getfield 79, 3) := by decide +kernel
theorem dX10_minutesGo_84 : decode cX10_minutesGo 84 = .ok (.iconst 1, 1) := by decide +kernel
theorem dX10_minutesGo_85 : decode cX10_minutesGo 85 = .ok (.iadd, 1) := by decide +kernel
theorem dX10_minutesGo_86 : decode cX10_minutesGo 86 = .ok (.putfield 79, 3) := by decide +kernel
theorem dX10_minutesGo_89 : decode cX10_minutesGo 89 = .ok (.iinc 2 1, 3) := by decide +kernel
theorem dX10_minutesGo_92 : decode cX10_minutesGo 92 = .ok (.goto (-90), 3) := by decide +kernel
theorem dX10_minutesGo_95 : decode cX10_minutesGo 95 = .ok (.return_, 1) := by decide +kernel
theorem dX10_rocketsIn_0 : decode cX10_rocketsIn 0 = .ok (.iconst 0, 1) := by decide +kernel
theorem dX10_rocketsIn_1 : decode cX10_rocketsIn 1 = .ok (.istore_n 2, 1) := by decide +kernel
theorem dX10_rocketsIn_2 : decode cX10_rocketsIn 2 = .ok (.iconst 0, 1) := by decide +kernel
theorem dX10_rocketsIn_3 : decode cX10_rocketsIn 3 = .ok (.istore_n 3, 1) := by decide +kernel
theorem dX10_rocketsIn_4 : decode cX10_rocketsIn 4 = .ok (.iload_n 3, 1) := by decide +kernel
theorem dX10_rocketsIn_5 : decode cX10_rocketsIn 5 = .ok (.aload_n 0, 1) := by decide +kernel
theorem dX10_rocketsIn_6 : decode cX10_rocketsIn 6 = .ok (.getfield 69, 3) := by decide +kernel
theorem dX10_rocketsIn_9 : decode cX10_rocketsIn 9 = .ok (.if_icmp .ge 27, 3) := by decide +kernel
theorem dX10_rocketsIn_12 : decode cX10_rocketsIn 12 = .ok (.aload_n 0, 1) := by decide +kernel
theorem dX10_rocketsIn_13 : decode cX10_rocketsIn 13 = .ok (.getfield 38, 3) := by decide +kernel
theorem dX10_rocketsIn_16 : decode cX10_rocketsIn 16 = .ok (.iload_n 3, 1) := by decide +kernel
theorem dX10_rocketsIn_17 : decode cX10_rocketsIn 17 = .ok (.aaload, 1) := by decide +kernel
theorem dX10_rocketsIn_18 : decode cX10_rocketsIn 18 = .ok (.iconst 5, 1) := by decide +kernel
theorem dX10_rocketsIn_19 : decode cX10_rocketsIn 19 = .ok (.iaload, 1) := by decide +kernel
theorem dX10_rocketsIn_20 : decode cX10_rocketsIn 20 = .ok (.iload_n 1, 1) := by decide +kernel
theorem dX10_rocketsIn_21 : decode cX10_rocketsIn 21 = .ok (.if_icmp .ne 9, 3) := by decide +kernel
theorem dX10_rocketsIn_24 : decode cX10_rocketsIn 24 = .ok (.iload_n 2, 1) := by decide +kernel
theorem dX10_rocketsIn_25 : decode cX10_rocketsIn 25 = .ok (.iconst 1, 1) := by decide +kernel
theorem dX10_rocketsIn_26 : decode cX10_rocketsIn 26 = .ok (.iload_n 3, 1) := by decide +kernel
theorem dX10_rocketsIn_27 : decode cX10_rocketsIn 27 = .ok (.ishl, 1) := by decide +kernel
theorem dX10_rocketsIn_28 : decode cX10_rocketsIn 28 = .ok (.ior, 1) := by decide +kernel
theorem dX10_rocketsIn_29 : decode cX10_rocketsIn 29 = .ok (.istore_n 2, 1) := by decide +kernel
theorem dX10_rocketsIn_30 : decode cX10_rocketsIn 30 = .ok (.iinc 3 1, 3) := by decide +kernel
theorem dX10_rocketsIn_33 : decode cX10_rocketsIn 33 = .ok (.goto (-29), 3) := by decide +kernel
theorem dX10_rocketsIn_36 : decode cX10_rocketsIn 36 = .ok (.iload_n 2, 1) := by decide +kernel
theorem dX10_rocketsIn_37 : decode cX10_rocketsIn 37 = .ok (.ireturn, 1) := by decide +kernel
theorem dX10_evenPeople_0 : decode cX10_evenPeople 0 = .ok (.iconst 0, 1) := by decide +kernel
theorem dX10_evenPeople_1 : decode cX10_evenPeople 1 = .ok (.istore_n 1, 1) := by decide +kernel
theorem dX10_evenPeople_2 : decode cX10_evenPeople 2 = .ok (.iconst 0, 1) := by decide +kernel
theorem dX10_evenPeople_3 : decode cX10_evenPeople 3 = .ok (.istore_n 2, 1) := by decide +kernel
theorem dX10_evenPeople_4 : decode cX10_evenPeople 4 = .ok (.iload_n 2, 1) := by decide +kernel
theorem dX10_evenPeople_5 : decode cX10_evenPeople 5 = .ok (.iconst 4, 1) := by decide +kernel
theorem dX10_evenPeople_6 : decode cX10_evenPeople 6 = .ok (.if_icmp .ge 24, 3) := by decide +kernel
theorem dX10_evenPeople_9 : decode cX10_evenPeople 9 = .ok (.aload_n 0, 1) := by decide +kernel
theorem dX10_evenPeople_10 : decode cX10_evenPeople 10 = .ok (.getfield 41, 3) := by decide +kernel
theorem dX10_evenPeople_13 : decode cX10_evenPeople 13 = .ok (.iload_n 2, 1) := by decide +kernel
theorem dX10_evenPeople_14 : decode cX10_evenPeople 14 = .ok (.iaload, 1) := by decide +kernel
theorem dX10_evenPeople_15 : decode cX10_evenPeople 15 = .ok (.ifCond .ne 9, 3) := by decide +kernel
theorem dX10_evenPeople_18 : decode cX10_evenPeople 18 = .ok (.iload_n 1, 1) := by decide +kernel
theorem dX10_evenPeople_19 : decode cX10_evenPeople 19 = .ok (.iconst 1, 1) := by decide +kernel
theorem dX10_evenPeople_20 : decode cX10_evenPeople 20 = .ok (.iload_n 2, 1) := by decide +kernel
theorem dX10_evenPeople_21 : decode cX10_evenPeople 21 = .ok (.ishl, 1) := by decide +kernel
theorem dX10_evenPeople_22 : decode cX10_evenPeople 22 = .ok (.ior, 1) := by decide +kernel
theorem dX10_evenPeople_23 : decode cX10_evenPeople 23 = .ok (.istore_n 1, 1) := by decide +kernel
theorem dX10_evenPeople_24 : decode cX10_evenPeople 24 = .ok (.iinc 2 1, 3) := by decide +kernel
theorem dX10_evenPeople_27 : decode cX10_evenPeople 27 = .ok (.goto (-23), 3) := by decide +kernel
theorem dX10_evenPeople_30 : decode cX10_evenPeople 30 = .ok (.iload_n 1, 1) := by decide +kernel
theorem dX10_evenPeople_31 : decode cX10_evenPeople 31 = .ok (.ireturn, 1) := by decide +kernel
theorem dX10_griefOfAll_0 : decode cX10_griefOfAll 0 = .ok (.iconst 0, 1) := by decide +kernel
theorem dX10_griefOfAll_1 : decode cX10_griefOfAll 1 = .ok (.istore_n 1, 1) := by decide +kernel
theorem dX10_griefOfAll_2 : decode cX10_griefOfAll 2 = .ok (.aload_n 0, 1) := by decide +kernel
theorem dX10_griefOfAll_3 : decode cX10_griefOfAll 3 = .ok (.getfield 41, 3) := by decide +kernel
theorem dX10_griefOfAll_6 : decode cX10_griefOfAll 6 = .ok (.astore_n 2, 1) := by decide +kernel
theorem dX10_griefOfAll_7 : decode cX10_griefOfAll 7 = .ok (.aload_n 2, 1) := by decide +kernel
theorem dX10_griefOfAll_8 : decode cX10_griefOfAll 8 = .ok (.arraylength, 1) := by decide +kernel
theorem dX10_griefOfAll_9 : decode cX10_griefOfAll 9 = .ok (.istore_n 3, 1) := by decide +kernel
theorem dX10_griefOfAll_10 : decode cX10_griefOfAll 10 = .ok (.iconst 0, 1) := by decide +kernel
theorem dX10_griefOfAll_11 : decode cX10_griefOfAll 11 = .ok (.istore 4, 2) := by decide +kernel
theorem dX10_griefOfAll_13 : decode cX10_griefOfAll 13 = .ok (.iload 4, 2) := by decide +kernel
theorem dX10_griefOfAll_15 : decode cX10_griefOfAll 15 = .ok (.iload_n 3, 1) := by decide +kernel
theorem dX10_griefOfAll_16 : decode cX10_griefOfAll 16 = .ok (.if_icmp .ge 20, 3) := by decide +kernel
theorem dX10_griefOfAll_19 : decode cX10_griefOfAll 19 = .ok (.aload_n 2, 1) := by decide +kernel
theorem dX10_griefOfAll_20 : decode cX10_griefOfAll 20 = .ok (.iload 4, 2) := by decide +kernel
theorem dX10_griefOfAll_22 : decode cX10_griefOfAll 22 = .ok (.iaload, 1) := by decide +kernel
theorem dX10_griefOfAll_23 : decode cX10_griefOfAll 23 = .ok (.istore 5, 2) := by decide +kernel
theorem dX10_griefOfAll_25 : decode cX10_griefOfAll 25 = .ok (.iload_n 1, 1) := by decide +kernel
theorem dX10_griefOfAll_26 : decode cX10_griefOfAll 26 = .ok (.iload 5, 2) := by decide +kernel
theorem dX10_griefOfAll_28 : decode cX10_griefOfAll 28 = .ok (.iadd, 1) := by decide +kernel
theorem dX10_griefOfAll_29 : decode cX10_griefOfAll 29 = .ok (.istore_n 1, 1) := by decide +kernel
theorem dX10_griefOfAll_30 : decode cX10_griefOfAll 30 = .ok (.iinc 4 1, 3) := by decide +kernel
theorem dX10_griefOfAll_33 : decode cX10_griefOfAll 33 = .ok (.goto (-20), 3) := by decide +kernel
theorem dX10_griefOfAll_36 : decode cX10_griefOfAll 36 = .ok (.iload_n 1, 1) := by decide +kernel
theorem dX10_griefOfAll_37 : decode cX10_griefOfAll 37 = .ok (.ireturn, 1) := by decide +kernel
theorem dX10_score_0 : decode cX10_score 0 = .ok (.sipush 10000, 3) := by decide +kernel
theorem dX10_score_3 : decode cX10_score 3 = .ok (.aload_n 0, 1) := by decide +kernel
theorem dX10_score_4 : decode cX10_score 4 = .ok (.invokevirtual 144, 3) := by decide +kernel
theorem dX10_score_7 : decode cX10_score 7 = .ok (.invokestatic 147, 3) := by decide +kernel
theorem dX10_score_10 : decode cX10_score 10 = .ok (.imul, 1) := by decide +kernel
theorem dX10_score_11 : decode cX10_score 11 = .ok (.aload_n 0, 1) := by decide +kernel
theorem dX10_score_12 : decode cX10_score 12 = .ok (.invokevirtual 152, 3) := by decide +kernel
theorem dX10_score_15 : decode cX10_score 15 = .ok (.isub, 1) := by decide +kernel
theorem dX10_score_16 : decode cX10_score 16 = .ok (.ireturn, 1) := by decide +kernel
theorem dJ11_isValidCodePoint_9a6ad_0 : decode cJ11_isValidCodePoint_9a6ad 0 = .ok (.iload_n 0, 1) := by decide +kernel
theorem dJ11_isValidCodePoint_9a6ad_1 : decode cJ11_isValidCodePoint_9a6ad 1 = .ok (.bipush 16, 2) := by decide +kernel
theorem dJ11_isValidCodePoint_9a6ad_3 : decode cJ11_isValidCodePoint_9a6ad 3 = .ok (.iushr, 1) := by decide +kernel
theorem dJ11_isValidCodePoint_9a6ad_4 : decode cJ11_isValidCodePoint_9a6ad 4 = .ok (.istore_n 1, 1) := by decide +kernel
theorem dJ11_isValidCodePoint_9a6ad_5 : decode cJ11_isValidCodePoint_9a6ad 5 = .ok (.iload_n 1, 1) := by decide +kernel
theorem dJ11_isValidCodePoint_9a6ad_6 : decode cJ11_isValidCodePoint_9a6ad 6 = .ok (.bipush 17, 2) := by decide +kernel
theorem dJ11_isValidCodePoint_9a6ad_8 : decode cJ11_isValidCodePoint_9a6ad 8 = .ok (.if_icmp .ge 7, 3) := by decide +kernel
theorem dJ11_isValidCodePoint_9a6ad_11 : decode cJ11_isValidCodePoint_9a6ad 11 = .ok (.iconst 1, 1) := by decide +kernel
theorem dJ11_isValidCodePoint_9a6ad_12 : decode cJ11_isValidCodePoint_9a6ad 12 = .ok (.goto 4, 3) := by decide +kernel
theorem dJ11_isValidCodePoint_9a6ad_15 : decode cJ11_isValidCodePoint_9a6ad 15 = .ok (.iconst 0, 1) := by decide +kernel
theorem dJ11_isValidCodePoint_9a6ad_16 : decode cJ11_isValidCodePoint_9a6ad 16 = .ok (.ireturn, 1) := by decide +kernel
theorem dJ11_highSurrogate_5068e_0 : decode cJ11_highSurrogate_5068e 0 = .ok (.iload_n 0, 1) := by decide +kernel
theorem dJ11_highSurrogate_5068e_1 : decode cJ11_highSurrogate_5068e 1 = .ok (.bipush 10, 2) := by decide +kernel
theorem dJ11_highSurrogate_5068e_3 : decode cJ11_highSurrogate_5068e 3 = .ok (.iushr, 1) := by decide +kernel
theorem dJ11_highSurrogate_5068e_4 : decode cJ11_highSurrogate_5068e 4 = .ok (.ldc 110, 2) := by decide +kernel
theorem dJ11_highSurrogate_5068e_6 : decode cJ11_highSurrogate_5068e 6 = .ok (.iadd, 1) := by decide +kernel
theorem dJ11_highSurrogate_5068e_7 : decode cJ11_highSurrogate_5068e 7 = .ok (.i2c, 1) := by decide +kernel
theorem dJ11_highSurrogate_5068e_8 : decode cJ11_highSurrogate_5068e 8 = .ok (.ireturn, 1) := by decide +kernel
theorem dJ11_lowSurrogate_5068e_0 : decode cJ11_lowSurrogate_5068e 0 = .ok (.iload_n 0, 1) := by decide +kernel
theorem dJ11_lowSurrogate_5068e_1 : decode cJ11_lowSurrogate_5068e 1 = .ok (.sipush 1023, 3) := by decide +kernel
theorem dJ11_lowSurrogate_5068e_4 : decode cJ11_lowSurrogate_5068e 4 = .ok (.iand, 1) := by decide +kernel
theorem dJ11_lowSurrogate_5068e_5 : decode cJ11_lowSurrogate_5068e 5 = .ok (.ldc 76, 2) := by decide +kernel
theorem dJ11_lowSurrogate_5068e_7 : decode cJ11_lowSurrogate_5068e 7 = .ok (.iadd, 1) := by decide +kernel
theorem dJ11_lowSurrogate_5068e_8 : decode cJ11_lowSurrogate_5068e 8 = .ok (.i2c, 1) := by decide +kernel
theorem dJ11_lowSurrogate_5068e_9 : decode cJ11_lowSurrogate_5068e 9 = .ok (.ireturn, 1) := by decide +kernel
theorem dJ6_numberOfTrailingZeros_0f7a4_0 : decode cJ6_numberOfTrailingZeros_0f7a4 0 = .ok (.iload_n 0, 1) := by decide +kernel
theorem dJ6_numberOfTrailingZeros_0f7a4_1 : decode cJ6_numberOfTrailingZeros_0f7a4 1 = .ok (.iconst (-1), 1) := by decide +kernel
theorem dJ6_numberOfTrailingZeros_0f7a4_2 : decode cJ6_numberOfTrailingZeros_0f7a4 2 = .ok (.ixor, 1) := by decide +kernel
theorem dJ6_numberOfTrailingZeros_0f7a4_3 : decode cJ6_numberOfTrailingZeros_0f7a4 3 = .ok (.iload_n 0, 1) := by decide +kernel
theorem dJ6_numberOfTrailingZeros_0f7a4_4 : decode cJ6_numberOfTrailingZeros_0f7a4 4 = .ok (.iconst 1, 1) := by decide +kernel
theorem dJ6_numberOfTrailingZeros_0f7a4_5 : decode cJ6_numberOfTrailingZeros_0f7a4 5 = .ok (.isub, 1) := by decide +kernel
theorem dJ6_numberOfTrailingZeros_0f7a4_6 : decode cJ6_numberOfTrailingZeros_0f7a4 6 = .ok (.iand, 1) := by decide +kernel
theorem dJ6_numberOfTrailingZeros_0f7a4_7 : decode cJ6_numberOfTrailingZeros_0f7a4 7 = .ok (.istore_n 0, 1) := by decide +kernel
theorem dJ6_numberOfTrailingZeros_0f7a4_8 : decode cJ6_numberOfTrailingZeros_0f7a4 8 = .ok (.iload_n 0, 1) := by decide +kernel
theorem dJ6_numberOfTrailingZeros_0f7a4_9 : decode cJ6_numberOfTrailingZeros_0f7a4 9 = .ok (.ifCond .gt 8, 3) := by decide +kernel
theorem dJ6_numberOfTrailingZeros_0f7a4_12 : decode cJ6_numberOfTrailingZeros_0f7a4 12 = .ok (.iload_n 0, 1) := by decide +kernel
theorem dJ6_numberOfTrailingZeros_0f7a4_13 : decode cJ6_numberOfTrailingZeros_0f7a4 13 = .ok (.bipush 32, 2) := by decide +kernel
theorem dJ6_numberOfTrailingZeros_0f7a4_15 : decode cJ6_numberOfTrailingZeros_0f7a4 15 = .ok (.iand, 1) := by decide +kernel
theorem dJ6_numberOfTrailingZeros_0f7a4_16 : decode cJ6_numberOfTrailingZeros_0f7a4 16 = .ok (.ireturn, 1) := by decide +kernel
theorem dJ6_numberOfTrailingZeros_0f7a4_17 : decode cJ6_numberOfTrailingZeros_0f7a4 17 = .ok (.iconst 1, 1) := by decide +kernel
theorem dJ6_numberOfTrailingZeros_0f7a4_18 : decode cJ6_numberOfTrailingZeros_0f7a4 18 = .ok (.istore_n 1, 1) := by decide +kernel
theorem dJ6_numberOfTrailingZeros_0f7a4_19 : decode cJ6_numberOfTrailingZeros_0f7a4 19 = .ok (.iload_n 0, 1) := by decide +kernel
theorem dJ6_numberOfTrailingZeros_0f7a4_20 : decode cJ6_numberOfTrailingZeros_0f7a4 20 = .ok (.ldc_w 264, 3) := by decide +kernel
theorem dJ6_numberOfTrailingZeros_0f7a4_23 : decode cJ6_numberOfTrailingZeros_0f7a4 23 = .ok (.if_icmp .le 11, 3) := by decide +kernel
theorem dJ6_numberOfTrailingZeros_0f7a4_26 : decode cJ6_numberOfTrailingZeros_0f7a4 26 = .ok (.iinc 1 16, 3) := by decide +kernel
theorem dJ6_numberOfTrailingZeros_0f7a4_29 : decode cJ6_numberOfTrailingZeros_0f7a4 29 = .ok (.iload_n 0, 1) := by decide +kernel
theorem dJ6_numberOfTrailingZeros_0f7a4_30 : decode cJ6_numberOfTrailingZeros_0f7a4 30 = .ok (.bipush 16, 2) := by decide +kernel
theorem dJ6_numberOfTrailingZeros_0f7a4_32 : decode cJ6_numberOfTrailingZeros_0f7a4 32 = .ok (.iushr, 1) := by decide +kernel
theorem dJ6_numberOfTrailingZeros_0f7a4_33 : decode cJ6_numberOfTrailingZeros_0f7a4 33 = .ok (.istore_n 0, 1) := by decide +kernel
theorem dJ6_numberOfTrailingZeros_0f7a4_34 : decode cJ6_numberOfTrailingZeros_0f7a4 34 = .ok (.iload_n 0, 1) := by decide +kernel
theorem dJ6_numberOfTrailingZeros_0f7a4_35 : decode cJ6_numberOfTrailingZeros_0f7a4 35 = .ok (.sipush 256, 3) := by decide +kernel
theorem dJ6_numberOfTrailingZeros_0f7a4_38 : decode cJ6_numberOfTrailingZeros_0f7a4 38 = .ok (.if_icmp .le 11, 3) := by decide +kernel
theorem dJ6_numberOfTrailingZeros_0f7a4_41 : decode cJ6_numberOfTrailingZeros_0f7a4 41 = .ok (.iinc 1 8, 3) := by decide +kernel
theorem dJ6_numberOfTrailingZeros_0f7a4_44 : decode cJ6_numberOfTrailingZeros_0f7a4 44 = .ok (.iload_n 0, 1) := by decide +kernel
theorem dJ6_numberOfTrailingZeros_0f7a4_45 : decode cJ6_numberOfTrailingZeros_0f7a4 45 = .ok (.bipush 8, 2) := by decide +kernel
theorem dJ6_numberOfTrailingZeros_0f7a4_47 : decode cJ6_numberOfTrailingZeros_0f7a4 47 = .ok (.iushr, 1) := by decide +kernel
theorem dJ6_numberOfTrailingZeros_0f7a4_48 : decode cJ6_numberOfTrailingZeros_0f7a4 48 = .ok (.istore_n 0, 1) := by decide +kernel
theorem dJ6_numberOfTrailingZeros_0f7a4_49 : decode cJ6_numberOfTrailingZeros_0f7a4 49 = .ok (.iload_n 0, 1) := by decide +kernel
theorem dJ6_numberOfTrailingZeros_0f7a4_50 : decode cJ6_numberOfTrailingZeros_0f7a4 50 = .ok (.bipush 16, 2) := by decide +kernel
theorem dJ6_numberOfTrailingZeros_0f7a4_52 : decode cJ6_numberOfTrailingZeros_0f7a4 52 = .ok (.if_icmp .le 10, 3) := by decide +kernel
theorem dJ6_numberOfTrailingZeros_0f7a4_55 : decode cJ6_numberOfTrailingZeros_0f7a4 55 = .ok (.iinc 1 4, 3) := by decide +kernel
theorem dJ6_numberOfTrailingZeros_0f7a4_58 : decode cJ6_numberOfTrailingZeros_0f7a4 58 = .ok (.iload_n 0, 1) := by decide +kernel
theorem dJ6_numberOfTrailingZeros_0f7a4_59 : decode cJ6_numberOfTrailingZeros_0f7a4 59 = .ok (.iconst 4, 1) := by decide +kernel
theorem dJ6_numberOfTrailingZeros_0f7a4_60 : decode cJ6_numberOfTrailingZeros_0f7a4 60 = .ok (.iushr, 1) := by decide +kernel
theorem dJ6_numberOfTrailingZeros_0f7a4_61 : decode cJ6_numberOfTrailingZeros_0f7a4 61 = .ok (.istore_n 0, 1) := by decide +kernel
theorem dJ6_numberOfTrailingZeros_0f7a4_62 : decode cJ6_numberOfTrailingZeros_0f7a4 62 = .ok (.iload_n 0, 1) := by decide +kernel
theorem dJ6_numberOfTrailingZeros_0f7a4_63 : decode cJ6_numberOfTrailingZeros_0f7a4 63 = .ok (.iconst 4, 1) := by decide +kernel
theorem dJ6_numberOfTrailingZeros_0f7a4_64 : decode cJ6_numberOfTrailingZeros_0f7a4 64 = .ok (.if_icmp .le 10, 3) := by decide +kernel
theorem dJ6_numberOfTrailingZeros_0f7a4_67 : decode cJ6_numberOfTrailingZeros_0f7a4 67 = .ok (.iinc 1 2, 3) := by decide +kernel
theorem dJ6_numberOfTrailingZeros_0f7a4_70 : decode cJ6_numberOfTrailingZeros_0f7a4 70 = .ok (.iload_n 0, 1) := by decide +kernel
theorem dJ6_numberOfTrailingZeros_0f7a4_71 : decode cJ6_numberOfTrailingZeros_0f7a4 71 = .ok (.iconst 2, 1) := by decide +kernel
theorem dJ6_numberOfTrailingZeros_0f7a4_72 : decode cJ6_numberOfTrailingZeros_0f7a4 72 = .ok (.iushr, 1) := by decide +kernel
theorem dJ6_numberOfTrailingZeros_0f7a4_73 : decode cJ6_numberOfTrailingZeros_0f7a4 73 = .ok (.istore_n 0, 1) := by decide +kernel
theorem dJ6_numberOfTrailingZeros_0f7a4_74 : decode cJ6_numberOfTrailingZeros_0f7a4 74 = .ok (.iload_n 1, 1) := by decide +kernel
theorem dJ6_numberOfTrailingZeros_0f7a4_75 : decode cJ6_numberOfTrailingZeros_0f7a4 75 = .ok (.iload_n 0, 1) := by decide +kernel
theorem dJ6_numberOfTrailingZeros_0f7a4_76 : decode cJ6_numberOfTrailingZeros_0f7a4 76 = .ok (.iconst 1, 1) := by decide +kernel
theorem dJ6_numberOfTrailingZeros_0f7a4_77 : decode cJ6_numberOfTrailingZeros_0f7a4 77 = .ok (.iushr, 1) := by decide +kernel
theorem dJ6_numberOfTrailingZeros_0f7a4_78 : decode cJ6_numberOfTrailingZeros_0f7a4 78 = .ok (.iadd, 1) := by decide +kernel
theorem dJ6_numberOfTrailingZeros_0f7a4_79 : decode cJ6_numberOfTrailingZeros_0f7a4 79 = .ok (.ireturn, 1) := by decide +kernel
theorem dJ6_bitCount_0f7a4_0 : decode cJ6_bitCount_0f7a4 0 = .ok (.iload_n 0, 1) := by decide +kernel
theorem dJ6_bitCount_0f7a4_1 : decode cJ6_bitCount_0f7a4 1 = .ok (.iload_n 0, 1) := by decide +kernel
theorem dJ6_bitCount_0f7a4_2 : decode cJ6_bitCount_0f7a4 2 = .ok (.iconst 1, 1) := by decide +kernel
theorem dJ6_bitCount_0f7a4_3 : decode cJ6_bitCount_0f7a4 3 = .ok (.iushr, 1) := by decide +kernel
theorem dJ6_bitCount_0f7a4_4 : decode cJ6_bitCount_0f7a4 4 = .ok (.ldc_w 265, 3) := by decide +kernel
theorem dJ6_bitCount_0f7a4_7 : decode cJ6_bitCount_0f7a4 7 = .ok (.iand, 1) := by decide +kernel
theorem dJ6_bitCount_0f7a4_8 : decode cJ6_bitCount_0f7a4 8 = .ok (.isub, 1) := by decide +kernel
theorem dJ6_bitCount_0f7a4_9 : decode cJ6_bitCount_0f7a4 9 = .ok (.istore_n 0, 1) := by decide +kernel
theorem dJ6_bitCount_0f7a4_10 : decode cJ6_bitCount_0f7a4 10 = .ok (.iload_n 0, 1) := by decide +kernel
theorem dJ6_bitCount_0f7a4_11 : decode cJ6_bitCount_0f7a4 11 = .ok (.ldc_w 266, 3) := by decide +kernel
theorem dJ6_bitCount_0f7a4_14 : decode cJ6_bitCount_0f7a4 14 = .ok (.iand, 1) := by decide +kernel
theorem dJ6_bitCount_0f7a4_15 : decode cJ6_bitCount_0f7a4 15 = .ok (.iload_n 0, 1) := by decide +kernel
theorem dJ6_bitCount_0f7a4_16 : decode cJ6_bitCount_0f7a4 16 = .ok (.iconst 2, 1) := by decide +kernel
theorem dJ6_bitCount_0f7a4_17 : decode cJ6_bitCount_0f7a4 17 = .ok (.iushr, 1) := by decide +kernel
theorem dJ6_bitCount_0f7a4_18 : decode cJ6_bitCount_0f7a4 18 = .ok (.ldc_w 266, 3) := by decide +kernel
theorem dJ6_bitCount_0f7a4_21 : decode cJ6_bitCount_0f7a4 21 = .ok (.iand, 1) := by decide +kernel
theorem dJ6_bitCount_0f7a4_22 : decode cJ6_bitCount_0f7a4 22 = .ok (.iadd, 1) := by decide +kernel
theorem dJ6_bitCount_0f7a4_23 : decode cJ6_bitCount_0f7a4 23 = .ok (.istore_n 0, 1) := by decide +kernel
theorem dJ6_bitCount_0f7a4_24 : decode cJ6_bitCount_0f7a4 24 = .ok (.iload_n 0, 1) := by decide +kernel
theorem dJ6_bitCount_0f7a4_25 : decode cJ6_bitCount_0f7a4 25 = .ok (.iload_n 0, 1) := by decide +kernel
theorem dJ6_bitCount_0f7a4_26 : decode cJ6_bitCount_0f7a4 26 = .ok (.iconst 4, 1) := by decide +kernel
theorem dJ6_bitCount_0f7a4_27 : decode cJ6_bitCount_0f7a4 27 = .ok (.iushr, 1) := by decide +kernel
theorem dJ6_bitCount_0f7a4_28 : decode cJ6_bitCount_0f7a4 28 = .ok (.iadd, 1) := by decide +kernel
theorem dJ6_bitCount_0f7a4_29 : decode cJ6_bitCount_0f7a4 29 = .ok (.ldc_w 267, 3) := by decide +kernel
theorem dJ6_bitCount_0f7a4_32 : decode cJ6_bitCount_0f7a4 32 = .ok (.iand, 1) := by decide +kernel
theorem dJ6_bitCount_0f7a4_33 : decode cJ6_bitCount_0f7a4 33 = .ok (.istore_n 0, 1) := by decide +kernel
theorem dJ6_bitCount_0f7a4_34 : decode cJ6_bitCount_0f7a4 34 = .ok (.iload_n 0, 1) := by decide +kernel
theorem dJ6_bitCount_0f7a4_35 : decode cJ6_bitCount_0f7a4 35 = .ok (.iload_n 0, 1) := by decide +kernel
theorem dJ6_bitCount_0f7a4_36 : decode cJ6_bitCount_0f7a4 36 = .ok (.bipush 8, 2) := by decide +kernel
theorem dJ6_bitCount_0f7a4_38 : decode cJ6_bitCount_0f7a4 38 = .ok (.iushr, 1) := by decide +kernel
theorem dJ6_bitCount_0f7a4_39 : decode cJ6_bitCount_0f7a4 39 = .ok (.iadd, 1) := by decide +kernel
theorem dJ6_bitCount_0f7a4_40 : decode cJ6_bitCount_0f7a4 40 = .ok (.istore_n 0, 1) := by decide +kernel
theorem dJ6_bitCount_0f7a4_41 : decode cJ6_bitCount_0f7a4 41 = .ok (.iload_n 0, 1) := by decide +kernel
theorem dJ6_bitCount_0f7a4_42 : decode cJ6_bitCount_0f7a4 42 = .ok (.iload_n 0, 1) := by decide +kernel
theorem dJ6_bitCount_0f7a4_43 : decode cJ6_bitCount_0f7a4 43 = .ok (.bipush 16, 2) := by decide +kernel
theorem dJ6_bitCount_0f7a4_45 : decode cJ6_bitCount_0f7a4 45 = .ok (.iushr, 1) := by decide +kernel
theorem dJ6_bitCount_0f7a4_46 : decode cJ6_bitCount_0f7a4 46 = .ok (.iadd, 1) := by decide +kernel
theorem dJ6_bitCount_0f7a4_47 : decode cJ6_bitCount_0f7a4 47 = .ok (.istore_n 0, 1) := by decide +kernel
theorem dJ6_bitCount_0f7a4_48 : decode cJ6_bitCount_0f7a4 48 = .ok (.iload_n 0, 1) := by decide +kernel
theorem dJ6_bitCount_0f7a4_49 : decode cJ6_bitCount_0f7a4 49 = .ok (.bipush 63, 2) := by decide +kernel
theorem dJ6_bitCount_0f7a4_51 : decode cJ6_bitCount_0f7a4 51 = .ok (.iand, 1) := by decide +kernel
theorem dJ6_bitCount_0f7a4_52 : decode cJ6_bitCount_0f7a4 52 = .ok (.ireturn, 1) := by decide +kernel
theorem dJ9_floorDiv_7cf53_0 : decode cJ9_floorDiv_7cf53 0 = .ok (.iload_n 0, 1) := by decide +kernel
theorem dJ9_floorDiv_7cf53_1 : decode cJ9_floorDiv_7cf53 1 = .ok (.iload_n 1, 1) := by decide +kernel
theorem dJ9_floorDiv_7cf53_2 : decode cJ9_floorDiv_7cf53 2 = .ok (.idiv, 1) := by decide +kernel
theorem dJ9_floorDiv_7cf53_3 : decode cJ9_floorDiv_7cf53 3 = .ok (.istore_n 2, 1) := by decide +kernel
theorem dJ9_floorDiv_7cf53_4 : decode cJ9_floorDiv_7cf53 4 = .ok (.iload_n 0, 1) := by decide +kernel
theorem dJ9_floorDiv_7cf53_5 : decode cJ9_floorDiv_7cf53 5 = .ok (.iload_n 1, 1) := by decide +kernel
theorem dJ9_floorDiv_7cf53_6 : decode cJ9_floorDiv_7cf53 6 = .ok (.ixor, 1) := by decide +kernel
theorem dJ9_floorDiv_7cf53_7 : decode cJ9_floorDiv_7cf53 7 = .ok (.ifCond .ge 14, 3) := by decide +kernel
theorem dJ9_floorDiv_7cf53_10 : decode cJ9_floorDiv_7cf53 10 = .ok (.iload_n 2, 1) := by decide +kernel
theorem dJ9_floorDiv_7cf53_11 : decode cJ9_floorDiv_7cf53 11 = .ok (.iload_n 1, 1) := by decide +kernel
theorem dJ9_floorDiv_7cf53_12 : decode cJ9_floorDiv_7cf53 12 = .ok (.imul, 1) := by decide +kernel
theorem dJ9_floorDiv_7cf53_13 : decode cJ9_floorDiv_7cf53 13 = .ok (.iload_n 0, 1) := by decide +kernel
theorem dJ9_floorDiv_7cf53_14 : decode cJ9_floorDiv_7cf53 14 = .ok (.if_icmp .eq 7, 3) := by decide +kernel
theorem dJ9_floorDiv_7cf53_17 : decode cJ9_floorDiv_7cf53 17 = .ok (.iload_n 2, 1) := by decide +kernel
theorem dJ9_floorDiv_7cf53_18 : decode cJ9_floorDiv_7cf53 18 = .ok (.iconst 1, 1) := by decide +kernel
theorem dJ9_floorDiv_7cf53_19 : decode cJ9_floorDiv_7cf53 19 = .ok (.isub, 1) := by decide +kernel
theorem dJ9_floorDiv_7cf53_20 : decode cJ9_floorDiv_7cf53 20 = .ok (.ireturn, 1) := by decide +kernel
theorem dJ9_floorDiv_7cf53_21 : decode cJ9_floorDiv_7cf53 21 = .ok (.iload_n 2, 1) := by decide +kernel
theorem dJ9_floorDiv_7cf53_22 : decode cJ9_floorDiv_7cf53 22 = .ok (.ireturn, 1) := by decide +kernel
theorem dJ9_floorMod_7cf53_0 : decode cJ9_floorMod_7cf53 0 = .ok (.iload_n 0, 1) := by decide +kernel
theorem dJ9_floorMod_7cf53_1 : decode cJ9_floorMod_7cf53 1 = .ok (.iload_n 1, 1) := by decide +kernel
theorem dJ9_floorMod_7cf53_2 : decode cJ9_floorMod_7cf53 2 = .ok (.irem, 1) := by decide +kernel
theorem dJ9_floorMod_7cf53_3 : decode cJ9_floorMod_7cf53 3 = .ok (.istore_n 2, 1) := by decide +kernel
theorem dJ9_floorMod_7cf53_4 : decode cJ9_floorMod_7cf53 4 = .ok (.iload_n 0, 1) := by decide +kernel
theorem dJ9_floorMod_7cf53_5 : decode cJ9_floorMod_7cf53 5 = .ok (.iload_n 1, 1) := by decide +kernel
theorem dJ9_floorMod_7cf53_6 : decode cJ9_floorMod_7cf53 6 = .ok (.ixor, 1) := by decide +kernel
theorem dJ9_floorMod_7cf53_7 : decode cJ9_floorMod_7cf53 7 = .ok (.ifCond .ge 11, 3) := by decide +kernel
theorem dJ9_floorMod_7cf53_10 : decode cJ9_floorMod_7cf53 10 = .ok (.iload_n 2, 1) := by decide +kernel
theorem dJ9_floorMod_7cf53_11 : decode cJ9_floorMod_7cf53 11 = .ok (.ifCond .eq 7, 3) := by decide +kernel
theorem dJ9_floorMod_7cf53_14 : decode cJ9_floorMod_7cf53 14 = .ok (.iload_n 2, 1) := by decide +kernel
theorem dJ9_floorMod_7cf53_15 : decode cJ9_floorMod_7cf53 15 = .ok (.iload_n 1, 1) := by decide +kernel
theorem dJ9_floorMod_7cf53_16 : decode cJ9_floorMod_7cf53 16 = .ok (.iadd, 1) := by decide +kernel
theorem dJ9_floorMod_7cf53_17 : decode cJ9_floorMod_7cf53 17 = .ok (.ireturn, 1) := by decide +kernel
theorem dJ9_floorMod_7cf53_18 : decode cJ9_floorMod_7cf53 18 = .ok (.iload_n 2, 1) := by decide +kernel
theorem dJ9_floorMod_7cf53_19 : decode cJ9_floorMod_7cf53 19 = .ok (.ireturn, 1) := by decide +kernel
theorem dJ9_max_7cf53_0 : decode cJ9_max_7cf53 0 = .ok (.iload_n 0, 1) := by decide +kernel
theorem dJ9_max_7cf53_1 : decode cJ9_max_7cf53 1 = .ok (.iload_n 1, 1) := by decide +kernel
theorem dJ9_max_7cf53_2 : decode cJ9_max_7cf53 2 = .ok (.if_icmp .lt 7, 3) := by decide +kernel
theorem dJ9_max_7cf53_5 : decode cJ9_max_7cf53 5 = .ok (.iload_n 0, 1) := by decide +kernel
theorem dJ9_max_7cf53_6 : decode cJ9_max_7cf53 6 = .ok (.goto 4, 3) := by decide +kernel
theorem dJ9_max_7cf53_9 : decode cJ9_max_7cf53 9 = .ok (.iload_n 1, 1) := by decide +kernel
theorem dJ9_max_7cf53_10 : decode cJ9_max_7cf53 10 = .ok (.ireturn, 1) := by decide +kernel
theorem dJ9_min_7cf53_0 : decode cJ9_min_7cf53 0 = .ok (.iload_n 0, 1) := by decide +kernel
theorem dJ9_min_7cf53_1 : decode cJ9_min_7cf53 1 = .ok (.iload_n 1, 1) := by decide +kernel
theorem dJ9_min_7cf53_2 : decode cJ9_min_7cf53 2 = .ok (.if_icmp .gt 7, 3) := by decide +kernel
theorem dJ9_min_7cf53_5 : decode cJ9_min_7cf53 5 = .ok (.iload_n 0, 1) := by decide +kernel
theorem dJ9_min_7cf53_6 : decode cJ9_min_7cf53 6 = .ok (.goto 4, 3) := by decide +kernel
theorem dJ9_min_7cf53_9 : decode cJ9_min_7cf53 9 = .ok (.iload_n 1, 1) := by decide +kernel
theorem dJ9_min_7cf53_10 : decode cJ9_min_7cf53 10 = .ok (.ireturn, 1) := by decide +kernel
theorem dJ0_length_8abf5_0 : decode cJ0_length_8abf5 0 = .ok (.aload_n 0, 1) := by decide +kernel
theorem dJ0_length_8abf5_1 : decode cJ0_length_8abf5 1 = .ok (.getfield 9, 3) := by decide +kernel
theorem dJ0_length_8abf5_4 : decode cJ0_length_8abf5 4 = .ok (.arraylength, 1) := by decide +kernel
theorem dJ0_length_8abf5_5 : decode cJ0_length_8abf5 5 = .ok (.aload_n 0, 1) := by decide +kernel
theorem dJ0_length_8abf5_6 : decode cJ0_length_8abf5 6 = .ok (.invokevirtual 335, 3) := by decide +kernel
theorem dJ0_length_8abf5_9 : decode cJ0_length_8abf5 9 = .ok (.ishr, 1) := by decide +kernel
theorem dJ0_length_8abf5_10 : decode cJ0_length_8abf5 10 = .ok (.ireturn, 1) := by decide +kernel
theorem dJ0_charAt_5068e_0 : decode cJ0_charAt_5068e 0 = .ok (.aload_n 0, 1) := by decide +kernel
theorem dJ0_charAt_5068e_1 : decode cJ0_charAt_5068e 1 = .ok (.invokevirtual 492, 3) := by decide +kernel
theorem dJ0_charAt_5068e_4 : decode cJ0_charAt_5068e 4 = .ok (.ifCond .eq 12, 3) := by decide +kernel
theorem dJ0_charAt_5068e_7 : decode cJ0_charAt_5068e 7 = .ok (.aload_n 0, 1) := by decide +kernel
theorem dJ0_charAt_5068e_8 : decode cJ0_charAt_5068e 8 = .ok (.getfield 9, 3) := by decide +kernel
theorem dJ0_charAt_5068e_11 : decode cJ0_charAt_5068e 11 = .ok (.iload_n 1, 1) := by decide +kernel
theorem dJ0_charAt_5068e_12 : decode cJ0_charAt_5068e 12 = .ok (.invokestatic 495, 3) := by decide +kernel
theorem dJ0_charAt_5068e_15 : decode cJ0_charAt_5068e 15 = .ok (.ireturn, 1) := by decide +kernel
theorem dJ0_charAt_5068e_16 : decode cJ0_charAt_5068e 16 = .ok (.aload_n 0, 1) := by decide +kernel
theorem dJ0_charAt_5068e_17 : decode cJ0_charAt_5068e 17 = .ok (.getfield 9, 3) := by decide +kernel
theorem dJ0_charAt_5068e_20 : decode cJ0_charAt_5068e 20 = .ok (.iload_n 1, 1) := by decide +kernel
theorem dJ0_charAt_5068e_21 : decode cJ0_charAt_5068e 21 = .ok (.invokestatic 498, 3) := by decide +kernel
theorem dJ0_charAt_5068e_24 : decode cJ0_charAt_5068e 24 = .ok (.ireturn, 1) := by decide +kernel
theorem dJ0_indexOf_0f7a4_0 : decode cJ0_indexOf_0f7a4 0 = .ok (.aload_n 0, 1) := by decide +kernel
theorem dJ0_indexOf_0f7a4_1 : decode cJ0_indexOf_0f7a4 1 = .ok (.iload_n 1, 1) := by decide +kernel
theorem dJ0_indexOf_0f7a4_2 : decode cJ0_indexOf_0f7a4 2 = .ok (.iconst 0, 1) := by decide +kernel
theorem dJ0_indexOf_0f7a4_3 : decode cJ0_indexOf_0f7a4 3 = .ok (.invokevirtual 633, 3) := by decide +kernel
theorem dJ0_indexOf_0f7a4_6 : decode cJ0_indexOf_0f7a4 6 = .ok (.ireturn, 1) := by decide +kernel
theorem dJ0_indexOf_7cf53_0 : decode cJ0_indexOf_7cf53 0 = .ok (.aload_n 0, 1) := by decide +kernel
theorem dJ0_indexOf_7cf53_1 : decode cJ0_indexOf_7cf53 1 = .ok (.invokevirtual 492, 3) := by decide +kernel
theorem dJ0_indexOf_7cf53_4 : decode cJ0_indexOf_7cf53 4 = .ok (.ifCond .eq 19, 3) := by decide +kernel
theorem dJ0_indexOf_7cf53_7 : decode cJ0_indexOf_7cf53 7 = .ok (.aload_n 0, 1) := by decide +kernel
theorem dJ0_indexOf_7cf53_8 : decode cJ0_indexOf_7cf53 8 = .ok (.getfield 9, 3) := by decide +kernel
theorem dJ0_indexOf_7cf53_11 : decode cJ0_indexOf_7cf53 11 = .ok (.iload_n 1, 1) := by decide +kernel
theorem dJ0_indexOf_7cf53_12 : decode cJ0_indexOf_7cf53 12 = .ok (.iload_n 2, 1) := by decide +kernel
theorem dJ0_indexOf_7cf53_13 : decode cJ0_indexOf_7cf53 13 = .ok (.aload_n 0, 1) := by decide +kernel
theorem dJ0_indexOf_7cf53_14 : decode cJ0_indexOf_7cf53 14 = .ok (.invokevirtual 505, 3) := by decide +kernel
theorem dJ0_indexOf_7cf53_17 : decode cJ0_indexOf_7cf53 17 = .ok (.invokestatic 637, 3) := by decide +kernel
theorem dJ0_indexOf_7cf53_20 : decode cJ0_indexOf_7cf53 20 = .ok (.goto 16, 3) := by decide +kernel
theorem dJ0_indexOf_7cf53_23 : decode cJ0_indexOf_7cf53 23 = .ok (.aload_n 0, 1) := by decide +kernel
theorem dJ0_indexOf_7cf53_24 : decode cJ0_indexOf_7cf53 24 = .ok (.getfield 9, 3) := by decide +kernel
theorem dJ0_indexOf_7cf53_27 : decode cJ0_indexOf_7cf53 27 = .ok (.iload_n 1, 1) := by decide +kernel
theorem dJ0_indexOf_7cf53_28 : decode cJ0_indexOf_7cf53 28 = .ok (.iload_n 2, 1) := by decide +kernel
theorem dJ0_indexOf_7cf53_29 : decode cJ0_indexOf_7cf53 29 = .ok (.aload_n 0, 1) := by decide +kernel
theorem dJ0_indexOf_7cf53_30 : decode cJ0_indexOf_7cf53 30 = .ok (.invokevirtual 505, 3) := by decide +kernel
theorem dJ0_indexOf_7cf53_33 : decode cJ0_indexOf_7cf53 33 = .ok (.invokestatic 640, 3) := by decide +kernel
theorem dJ0_indexOf_7cf53_36 : decode cJ0_indexOf_7cf53 36 = .ok (.ireturn, 1) := by decide +kernel
theorem dJ0_coder_7d493_0 : decode cJ0_coder_7d493 0 = .ok (.getstatic 38, 3) := by decide +kernel
theorem dJ0_coder_7d493_3 : decode cJ0_coder_7d493 3 = .ok (.ifCond .eq 10, 3) := by decide +kernel
theorem dJ0_coder_7d493_6 : decode cJ0_coder_7d493 6 = .ok (.aload_n 0, 1) := by decide +kernel
theorem dJ0_coder_7d493_7 : decode cJ0_coder_7d493 7 = .ok (.getfield 15, 3) := by decide +kernel
theorem dJ0_coder_7d493_10 : decode cJ0_coder_7d493 10 = .ok (.goto 4, 3) := by decide +kernel
theorem dJ0_coder_7d493_13 : decode cJ0_coder_7d493 13 = .ok (.iconst 1, 1) := by decide +kernel
theorem dJ0_coder_7d493_14 : decode cJ0_coder_7d493 14 = .ok (.ireturn, 1) := by decide +kernel
theorem dJ0_isLatin1_aae02_0 : decode cJ0_isLatin1_aae02 0 = .ok (.getstatic 38, 3) := by decide +kernel
theorem dJ0_isLatin1_aae02_3 : decode cJ0_isLatin1_aae02 3 = .ok (.ifCond .eq 14, 3) := by decide +kernel
theorem dJ0_isLatin1_aae02_6 : decode cJ0_isLatin1_aae02 6 = .ok (.aload_n 0, 1) := by decide +kernel
theorem dJ0_isLatin1_aae02_7 : decode cJ0_isLatin1_aae02 7 = .ok (.getfield 15, 3) := by decide +kernel
theorem dJ0_isLatin1_aae02_10 : decode cJ0_isLatin1_aae02 10 = .ok (.ifCond .ne 7, 3) := by decide +kernel
theorem dJ0_isLatin1_aae02_13 : decode cJ0_isLatin1_aae02 13 = .ok (.iconst 1, 1) := by decide +kernel
theorem dJ0_isLatin1_aae02_14 : decode cJ0_isLatin1_aae02 14 = .ok (.goto 4, 3) := by decide +kernel
theorem dJ0_isLatin1_aae02_17 : decode cJ0_isLatin1_aae02 17 = .ok (.iconst 0, 1) := by decide +kernel
theorem dJ0_isLatin1_aae02_18 : decode cJ0_isLatin1_aae02 18 = .ok (.ireturn, 1) := by decide +kernel
theorem dJ0_checkIndex_df160_0 : decode cJ0_checkIndex_df160 0 = .ok (.iload_n 0, 1) := by decide +kernel
theorem dJ0_checkIndex_df160_1 : decode cJ0_checkIndex_df160 1 = .ok (.iload_n 1, 1) := by decide +kernel
theorem dJ0_checkIndex_df160_2 : decode cJ0_checkIndex_df160 2 = .ok (.getstatic 1053, 3) := by decide +kernel
theorem dJ0_checkIndex_df160_5 : decode cJ0_checkIndex_df160 5 = .ok (.invokestatic 1059, 3) := by decide +kernel
theorem dJ0_checkIndex_df160_8 : decode cJ0_checkIndex_df160 8 = .ok (.pop, 1) := by decide +kernel
theorem dJ0_checkIndex_df160_9 : decode cJ0_checkIndex_df160 9 = .ok (.return_, 1) := by decide +kernel
theorem dJ0_checkBoundsBeginEnd_23922_0 : decode cJ0_checkBoundsBeginEnd_23922 0 = .ok (.iload_n 0, 1) := by decide +kernel
theorem dJ0_checkBoundsBeginEnd_23922_1 : decode cJ0_checkBoundsBeginEnd_23922 1 = .ok (.iload_n 1, 1) := by decide +kernel
theorem dJ0_checkBoundsBeginEnd_23922_2 : decode cJ0_checkBoundsBeginEnd_23922 2 = .ok (.iload_n 2, 1) := by decide +kernel
theorem dJ0_checkBoundsBeginEnd_23922_3 : decode cJ0_checkBoundsBeginEnd_23922 3 = .ok (.getstatic 1053, 3) := by decide +kernel
theorem dJ0_checkBoundsBeginEnd_23922_6 : decode cJ0_checkBoundsBeginEnd_23922 6 = .ok (.invokestatic 1062, 3) := by decide +kernel
theorem dJ0_checkBoundsBeginEnd_23922_9 : decode cJ0_checkBoundsBeginEnd_23922 9 = .ok (.pop, 1) := by decide +kernel
theorem dJ0_checkBoundsBeginEnd_23922_10 : decode cJ0_checkBoundsBeginEnd_23922 10 = .ok (.return_, 1) := by decide +kernel
theorem dJ1_charAt_3b067_0 : decode cJ1_charAt_3b067 0 = .ok (.iload_n 1, 1) := by decide +kernel
theorem dJ1_charAt_3b067_1 : decode cJ1_charAt_3b067 1 = .ok (.aload_n 0, 1) := by decide +kernel
theorem dJ1_charAt_3b067_2 : decode cJ1_charAt_3b067 2 = .ok (.arraylength, 1) := by decide +kernel
theorem dJ1_charAt_3b067_3 : decode cJ1_charAt_3b067 3 = .ok (.invokestatic 9, 3) := by decide +kernel
theorem dJ1_charAt_3b067_6 : decode cJ1_charAt_3b067 6 = .ok (.aload_n 0, 1) := by decide +kernel
theorem dJ1_charAt_3b067_7 : decode cJ1_charAt_3b067 7 = .ok (.iload_n 1, 1) := by decide +kernel
theorem dJ1_charAt_3b067_8 : decode cJ1_charAt_3b067 8 = .ok (.baload, 1) := by decide +kernel
theorem dJ1_charAt_3b067_9 : decode cJ1_charAt_3b067 9 = .ok (.sipush 255, 3) := by decide +kernel
theorem dJ1_charAt_3b067_12 : decode cJ1_charAt_3b067 12 = .ok (.iand, 1) := by decide +kernel
theorem dJ1_charAt_3b067_13 : decode cJ1_charAt_3b067 13 = .ok (.i2c, 1) := by decide +kernel
theorem dJ1_charAt_3b067_14 : decode cJ1_charAt_3b067 14 = .ok (.ireturn, 1) := by decide +kernel
theorem dJ1_canEncode_9a6ad_0 : decode cJ1_canEncode_9a6ad 0 = .ok (.iload_n 0, 1) := by decide +kernel
theorem dJ1_canEncode_9a6ad_1 : decode cJ1_canEncode_9a6ad 1 = .ok (.ifCond .lt 14, 3) := by decide +kernel
theorem dJ1_canEncode_9a6ad_4 : decode cJ1_canEncode_9a6ad 4 = .ok (.iload_n 0, 1) := by decide +kernel
theorem dJ1_canEncode_9a6ad_5 : decode cJ1_canEncode_9a6ad 5 = .ok (.sipush 255, 3) := by decide +kernel
theorem dJ1_canEncode_9a6ad_8 : decode cJ1_canEncode_9a6ad 8 = .ok (.if_icmp .gt 7, 3) := by decide +kernel
theorem dJ1_canEncode_9a6ad_11 : decode cJ1_canEncode_9a6ad 11 = .ok (.iconst 1, 1) := by decide +kernel
theorem dJ1_canEncode_9a6ad_12 : decode cJ1_canEncode_9a6ad 12 = .ok (.goto 4, 3) := by decide +kernel
theorem dJ1_canEncode_9a6ad_15 : decode cJ1_canEncode_9a6ad 15 = .ok (.iconst 0, 1) := by decide +kernel
theorem dJ1_canEncode_9a6ad_16 : decode cJ1_canEncode_9a6ad 16 = .ok (.ireturn, 1) := by decide +kernel
theorem dJ1_indexOf_4cfef_0 : decode cJ1_indexOf_4cfef 0 = .ok (.iload_n 1, 1) := by decide +kernel
theorem dJ1_indexOf_4cfef_1 : decode cJ1_indexOf_4cfef 1 = .ok (.invokestatic 88, 3) := by decide +kernel
theorem dJ1_indexOf_4cfef_4 : decode cJ1_indexOf_4cfef 4 = .ok (.ifCond .ne 5, 3) := by decide +kernel
theorem dJ1_indexOf_4cfef_7 : decode cJ1_indexOf_4cfef 7 = .ok (.iconst (-1), 1) := by decide +kernel
theorem dJ1_indexOf_4cfef_8 : decode cJ1_indexOf_4cfef 8 = .ok (.ireturn, 1) := by decide +kernel
theorem dJ1_indexOf_4cfef_9 : decode cJ1_indexOf_4cfef 9 = .ok (.iload_n 2, 1) := by decide +kernel
theorem dJ1_indexOf_4cfef_10 : decode cJ1_indexOf_4cfef 10 = .ok (.iconst 0, 1) := by decide +kernel
theorem dJ1_indexOf_4cfef_11 : decode cJ1_indexOf_4cfef 11 = .ok (.invokestatic 92, 3) := by decide +kernel
theorem dJ1_indexOf_4cfef_14 : decode cJ1_indexOf_4cfef 14 = .ok (.istore_n 2, 1) := by decide +kernel
theorem dJ1_indexOf_4cfef_15 : decode cJ1_indexOf_4cfef 15 = .ok (.iload_n 3, 1) := by decide +kernel
theorem dJ1_indexOf_4cfef_16 : decode cJ1_indexOf_4cfef 16 = .ok (.aload_n 0, 1) := by decide +kernel
theorem dJ1_indexOf_4cfef_17 : decode cJ1_indexOf_4cfef 17 = .ok (.arraylength, 1) := by decide +kernel
theorem dJ1_indexOf_4cfef_18 : decode cJ1_indexOf_4cfef 18 = .ok (.invokestatic 38, 3) := by decide +kernel
theorem dJ1_indexOf_4cfef_21 : decode cJ1_indexOf_4cfef 21 = .ok (.istore_n 3, 1) := by decide +kernel
theorem dJ1_indexOf_4cfef_22 : decode cJ1_indexOf_4cfef 22 = .ok (.iload_n 2, 1) := by decide +kernel
theorem dJ1_indexOf_4cfef_23 : decode cJ1_indexOf_4cfef 23 = .ok (.iload_n 3, 1) := by decide +kernel
theorem dJ1_indexOf_4cfef_24 : decode cJ1_indexOf_4cfef 24 = .ok (.if_icmp .lt 5, 3) := by decide +kernel
theorem dJ1_indexOf_4cfef_27 : decode cJ1_indexOf_4cfef 27 = .ok (.iconst (-1), 1) := by decide +kernel
theorem dJ1_indexOf_4cfef_28 : decode cJ1_indexOf_4cfef 28 = .ok (.ireturn, 1) := by decide +kernel
theorem dJ1_indexOf_4cfef_29 : decode cJ1_indexOf_4cfef 29 = .ok (.aload_n 0, 1) := by decide +kernel
theorem dJ1_indexOf_4cfef_30 : decode cJ1_indexOf_4cfef 30 = .ok (.iload_n 1, 1) := by decide +kernel
theorem dJ1_indexOf_4cfef_31 : decode cJ1_indexOf_4cfef 31 = .ok (.iload_n 2, 1) := by decide +kernel
theorem dJ1_indexOf_4cfef_32 : decode cJ1_indexOf_4cfef 32 = .ok (.iload_n 3, 1) := by decide +kernel
theorem dJ1_indexOf_4cfef_33 : decode cJ1_indexOf_4cfef 33 = .ok (.invokestatic 95, 3) := by decide +kernel
theorem dJ1_indexOf_4cfef_36 : decode cJ1_indexOf_4cfef 36 = .ok (.ireturn, 1) := by decide +kernel
theorem dJ1_indexOfChar_4cfef_0 : decode cJ1_indexOfChar_4cfef 0 = .ok (.iload_n 1, 1) := by decide +kernel
theorem dJ1_indexOfChar_4cfef_1 : decode cJ1_indexOfChar_4cfef 1 = .ok (.i2b, 1) := by decide +kernel
theorem dJ1_indexOfChar_4cfef_2 : decode cJ1_indexOfChar_4cfef 2 = .ok (.istore 4, 2) := by decide +kernel
theorem dJ1_indexOfChar_4cfef_4 : decode cJ1_indexOfChar_4cfef 4 = .ok (.iload_n 2, 1) := by decide +kernel
theorem dJ1_indexOfChar_4cfef_5 : decode cJ1_indexOfChar_4cfef 5 = .ok (.istore 5, 2) := by decide +kernel
theorem dJ1_indexOfChar_4cfef_7 : decode cJ1_indexOfChar_4cfef 7 = .ok (.iload 5, 2) := by decide +kernel
theorem dJ1_indexOfChar_4cfef_9 : decode cJ1_indexOfChar_4cfef 9 = .ok (.iload_n 3, 1) := by decide +kernel
theorem dJ1_indexOfChar_4cfef_10 : decode cJ1_indexOfChar_4cfef 10 = .ok (.if_icmp .ge 21, 3) := by decide +kernel
theorem dJ1_indexOfChar_4cfef_13 : decode cJ1_indexOfChar_4cfef 13 = .ok (.aload_n 0, 1) := by decide +kernel
theorem dJ1_indexOfChar_4cfef_14 : decode cJ1_indexOfChar_4cfef 14 = .ok (.iload 5, 2) := by decide +kernel
theorem dJ1_indexOfChar_4cfef_16 : decode cJ1_indexOfChar_4cfef 16 = .ok (.baload, 1) := by decide +kernel
theorem dJ1_indexOfChar_4cfef_17 : decode cJ1_indexOfChar_4cfef 17 = .ok (.iload 4, 2) := by decide +kernel
theorem dJ1_indexOfChar_4cfef_19 : decode cJ1_indexOfChar_4cfef 19 = .ok (.if_icmp .ne 6, 3) := by decide +kernel
theorem dJ1_indexOfChar_4cfef_22 : decode cJ1_indexOfChar_4cfef 22 = .ok (.iload 5, 2) := by decide +kernel
theorem dJ1_indexOfChar_4cfef_24 : decode cJ1_indexOfChar_4cfef 24 = .ok (.ireturn, 1) := by decide +kernel
theorem dJ1_indexOfChar_4cfef_25 : decode cJ1_indexOfChar_4cfef 25 = .ok (.iinc 5 1, 3) := by decide +kernel
theorem dJ1_indexOfChar_4cfef_28 : decode cJ1_indexOfChar_4cfef 28 = .ok (.goto (-21), 3) := by decide +kernel
theorem dJ1_indexOfChar_4cfef_31 : decode cJ1_indexOfChar_4cfef 31 = .ok (.iconst (-1), 1) := by decide +kernel
theorem dJ1_indexOfChar_4cfef_32 : decode cJ1_indexOfChar_4cfef 32 = .ok (.ireturn, 1) := by decide +kernel
theorem dJ2_getChar_3b067_0 : decode cJ2_getChar_3b067 0 = .ok (.getstatic 44, 3) := by decide +kernel
theorem dJ2_getChar_3b067_3 : decode cJ2_getChar_3b067 3 = .ok (.ifCond .ne 25, 3) := by decide +kernel
theorem dJ2_getChar_3b067_6 : decode cJ2_getChar_3b067 6 = .ok (.iload_n 1, 1) := by decide +kernel
theorem dJ2_getChar_3b067_7 : decode cJ2_getChar_3b067 7 = .ok (.ifCond .lt 11, 3) := by decide +kernel
theorem dJ2_getChar_3b067_10 : decode cJ2_getChar_3b067 10 = .ok (.iload_n 1, 1) := by decide +kernel
theorem dJ2_getChar_3b067_11 : decode cJ2_getChar_3b067 11 = .ok (.aload_n 0, 1) := by decide +kernel
theorem dJ2_getChar_3b067_12 : decode cJ2_getChar_3b067 12 = .ok (.invokestatic 48, 3) := by decide +kernel
theorem dJ2_getChar_3b067_15 : decode cJ2_getChar_3b067 15 = .ok (.if_icmp .lt 13, 3) := by decide +kernel
theorem dJ2_getChar_3b067_18 : decode cJ2_getChar_3b067 18 = .ok (.new 52, 3) := by decide +kernel
theorem dJ2_getChar_3b067_21 : decode cJ2_getChar_3b067 21 = .ok (.dup, 1) := by decide +kernel
theorem dJ2_getChar_3b067_22 : decode cJ2_getChar_3b067 22 = .ok (.ldc 54, 2) := by decide +kernel
theorem dJ2_getChar_3b067_24 : decode cJ2_getChar_3b067 24 = .ok (.invokespecial 56, 3) := by decide +kernel
theorem dJ2_getChar_3b067_27 : decode cJ2_getChar_3b067 27 = .ok (.athrow, 1) := by decide +kernel
theorem dJ2_getChar_3b067_28 : decode cJ2_getChar_3b067 28 = .ok (.iload_n 1, 1) := by decide +kernel
theorem dJ2_getChar_3b067_29 : decode cJ2_getChar_3b067 29 = .ok (.iconst 1, 1) := by decide +kernel
theorem dJ2_getChar_3b067_30 : decode cJ2_getChar_3b067 30 = .ok (.ishl, 1) := by decide +kernel
theorem dJ2_getChar_3b067_31 : decode cJ2_getChar_3b067 31 = .ok (.istore_n 1, 1) := by decide +kernel
theorem dJ2_getChar_3b067_32 : decode cJ2_getChar_3b067 32 = .ok (.aload_n 0, 1) := by decide +kernel
theorem dJ2_getChar_3b067_33 : decode cJ2_getChar_3b067 33 = .ok (.iload_n 1, 1) := by decide +kernel
theorem dJ2_getChar_3b067_34 : decode cJ2_getChar_3b067 34 = .ok (.iinc 1 1, 3) := by decide +kernel
theorem dJ2_getChar_3b067_37 : decode cJ2_getChar_3b067 37 = .ok (.baload, 1) := by decide +kernel
theorem dJ2_getChar_3b067_38 : decode cJ2_getChar_3b067 38 = .ok (.sipush 255, 3) := by decide +kernel
theorem dJ2_getChar_3b067_41 : decode cJ2_getChar_3b067 41 = .ok (.iand, 1) := by decide +kernel
theorem dJ2_getChar_3b067_42 : decode cJ2_getChar_3b067 42 = .ok (.getstatic 59, 3) := by decide +kernel
theorem dJ2_getChar_3b067_45 : decode cJ2_getChar_3b067 45 = .ok (.ishl, 1) := by decide +kernel
theorem dJ2_getChar_3b067_46 : decode cJ2_getChar_3b067 46 = .ok (.aload_n 0, 1) := by decide +kernel
theorem dJ2_getChar_3b067_47 : decode cJ2_getChar_3b067 47 = .ok (.iload_n 1, 1) := by decide +kernel
theorem dJ2_getChar_3b067_48 : decode cJ2_getChar_3b067 48 = .ok (.baload, 1) := by decide +kernel
theorem dJ2_getChar_3b067_49 : decode cJ2_getChar_3b067 49 = .ok (.sipush 255, 3) := by decide +kernel
theorem dJ2_getChar_3b067_52 : decode cJ2_getChar_3b067 52 = .ok (.iand, 1) := by decide +kernel
theorem dJ2_getChar_3b067_53 : decode cJ2_getChar_3b067 53 = .ok (.getstatic 63, 3) := by decide +kernel
theorem dJ2_getChar_3b067_56 : decode cJ2_getChar_3b067 56 = .ok (.ishl, 1) := by decide +kernel
theorem dJ2_getChar_3b067_57 : decode cJ2_getChar_3b067 57 = .ok (.ior, 1) := by decide +kernel
theorem dJ2_getChar_3b067_58 : decode cJ2_getChar_3b067 58 = .ok (.i2c, 1) := by decide +kernel
theorem dJ2_getChar_3b067_59 : decode cJ2_getChar_3b067 59 = .ok (.ireturn, 1) := by decide +kernel
theorem dJ2_length_9d52b_0 : decode cJ2_length_9d52b 0 = .ok (.aload_n 0, 1) := by decide +kernel
theorem dJ2_length_9d52b_1 : decode cJ2_length_9d52b 1 = .ok (.arraylength, 1) := by decide +kernel
theorem dJ2_length_9d52b_2 : decode cJ2_length_9d52b 2 = .ok (.iconst 1, 1) := by decide +kernel
theorem dJ2_length_9d52b_3 : decode cJ2_length_9d52b 3 = .ok (.ishr, 1) := by decide +kernel
theorem dJ2_length_9d52b_4 : decode cJ2_length_9d52b 4 = .ok (.ireturn, 1) := by decide +kernel
theorem dJ2_indexOf_4cfef_0 : decode cJ2_indexOf_4cfef 0 = .ok (.iload_n 2, 1) := by decide +kernel
theorem dJ2_indexOf_4cfef_1 : decode cJ2_indexOf_4cfef 1 = .ok (.iconst 0, 1) := by decide +kernel
theorem dJ2_indexOf_4cfef_2 : decode cJ2_indexOf_4cfef 2 = .ok (.invokestatic 224, 3) := by decide +kernel
theorem dJ2_indexOf_4cfef_5 : decode cJ2_indexOf_4cfef 5 = .ok (.istore_n 2, 1) := by decide +kernel
theorem dJ2_indexOf_4cfef_6 : decode cJ2_indexOf_4cfef 6 = .ok (.iload_n 3, 1) := by decide +kernel
theorem dJ2_indexOf_4cfef_7 : decode cJ2_indexOf_4cfef 7 = .ok (.aload_n 0, 1) := by decide +kernel
theorem dJ2_indexOf_4cfef_8 : decode cJ2_indexOf_4cfef 8 = .ok (.arraylength, 1) := by decide +kernel
theorem dJ2_indexOf_4cfef_9 : decode cJ2_indexOf_4cfef 9 = .ok (.iconst 1, 1) := by decide +kernel
theorem dJ2_indexOf_4cfef_10 : decode cJ2_indexOf_4cfef 10 = .ok (.ishr, 1) := by decide +kernel
theorem dJ2_indexOf_4cfef_11 : decode cJ2_indexOf_4cfef 11 = .ok (.invokestatic 183, 3) := by decide +kernel
theorem dJ2_indexOf_4cfef_14 : decode cJ2_indexOf_4cfef 14 = .ok (.istore_n 3, 1) := by decide +kernel
theorem dJ2_indexOf_4cfef_15 : decode cJ2_indexOf_4cfef 15 = .ok (.iload_n 2, 1) := by decide +kernel
theorem dJ2_indexOf_4cfef_16 : decode cJ2_indexOf_4cfef 16 = .ok (.iload_n 3, 1) := by decide +kernel
theorem dJ2_indexOf_4cfef_17 : decode cJ2_indexOf_4cfef 17 = .ok (.if_icmp .lt 5, 3) := by decide +kernel
theorem dJ2_indexOf_4cfef_20 : decode cJ2_indexOf_4cfef 20 = .ok (.iconst (-1), 1) := by decide +kernel
theorem dJ2_indexOf_4cfef_21 : decode cJ2_indexOf_4cfef 21 = .ok (.ireturn, 1) := by decide +kernel
theorem dJ2_indexOf_4cfef_22 : decode cJ2_indexOf_4cfef 22 = .ok (.iload_n 1, 1) := by decide +kernel
theorem dJ2_indexOf_4cfef_23 : decode cJ2_indexOf_4cfef 23 = .ok (.ldc 227, 2) := by decide +kernel
theorem dJ2_indexOf_4cfef_25 : decode cJ2_indexOf_4cfef 25 = .ok (.if_icmp .ge 11, 3) := by decide +kernel
theorem dJ2_indexOf_4cfef_28 : decode cJ2_indexOf_4cfef 28 = .ok (.aload_n 0, 1) := by decide +kernel
theorem dJ2_indexOf_4cfef_29 : decode cJ2_indexOf_4cfef 29 = .ok (.iload_n 1, 1) := by decide +kernel
theorem dJ2_indexOf_4cfef_30 : decode cJ2_indexOf_4cfef 30 = .ok (.iload_n 2, 1) := by decide +kernel
theorem dJ2_indexOf_4cfef_31 : decode cJ2_indexOf_4cfef 31 = .ok (.iload_n 3, 1) := by decide +kernel
theorem dJ2_indexOf_4cfef_32 : decode cJ2_indexOf_4cfef 32 = .ok (.invokestatic 228, 3) := by decide +kernel
theorem dJ2_indexOf_4cfef_35 : decode cJ2_indexOf_4cfef 35 = .ok (.ireturn, 1) := by decide +kernel
theorem dJ2_indexOf_4cfef_36 : decode cJ2_indexOf_4cfef 36 = .ok (.aload_n 0, 1) := by decide +kernel
theorem dJ2_indexOf_4cfef_37 : decode cJ2_indexOf_4cfef 37 = .ok (.iload_n 1, 1) := by decide +kernel
theorem dJ2_indexOf_4cfef_38 : decode cJ2_indexOf_4cfef 38 = .ok (.iload_n 2, 1) := by decide +kernel
theorem dJ2_indexOf_4cfef_39 : decode cJ2_indexOf_4cfef 39 = .ok (.iload_n 3, 1) := by decide +kernel
theorem dJ2_indexOf_4cfef_40 : decode cJ2_indexOf_4cfef 40 = .ok (.invokestatic 232, 3) := by decide +kernel
theorem dJ2_indexOf_4cfef_43 : decode cJ2_indexOf_4cfef 43 = .ok (.ireturn, 1) := by decide +kernel
theorem dJ2_indexOfChar_4cfef_0 : decode cJ2_indexOfChar_4cfef 0 = .ok (.iload_n 2, 1) := by decide +kernel
theorem dJ2_indexOfChar_4cfef_1 : decode cJ2_indexOfChar_4cfef 1 = .ok (.iload_n 3, 1) := by decide +kernel
theorem dJ2_indexOfChar_4cfef_2 : decode cJ2_indexOfChar_4cfef 2 = .ok (.aload_n 0, 1) := by decide +kernel
theorem dJ2_indexOfChar_4cfef_3 : decode cJ2_indexOfChar_4cfef 3 = .ok (.invokestatic 96, 3) := by decide +kernel
theorem dJ2_indexOfChar_4cfef_6 : decode cJ2_indexOfChar_4cfef 6 = .ok (.aload_n 0, 1) := by decide +kernel
theorem dJ2_indexOfChar_4cfef_7 : decode cJ2_indexOfChar_4cfef 7 = .ok (.iload_n 1, 1) := by decide +kernel
theorem dJ2_indexOfChar_4cfef_8 : decode cJ2_indexOfChar_4cfef 8 = .ok (.iload_n 2, 1) := by decide +kernel
theorem dJ2_indexOfChar_4cfef_9 : decode cJ2_indexOfChar_4cfef 9 = .ok (.iload_n 3, 1) := by decide +kernel
theorem dJ2_indexOfChar_4cfef_10 : decode cJ2_indexOfChar_4cfef 10 = .ok (.invokestatic 244, 3) := by decide +kernel
theorem dJ2_indexOfChar_4cfef_13 : decode cJ2_indexOfChar_4cfef 13 = .ok (.ireturn, 1) := by decide +kernel
theorem dJ2_indexOfCharUnsafe_4cfef_0 : decode cJ2_indexOfCharUnsafe_4cfef 0 = .ok (.iload_n 2, 1) := by decide +kernel
theorem dJ2_indexOfCharUnsafe_4cfef_1 : decode cJ2_indexOfCharUnsafe_4cfef 1 = .ok (.istore 4, 2) := by decide +kernel
theorem dJ2_indexOfCharUnsafe_4cfef_3 : decode cJ2_indexOfCharUnsafe_4cfef 3 = .ok (.iload 4, 2) := by decide +kernel
theorem dJ2_indexOfCharUnsafe_4cfef_5 : decode cJ2_indexOfCharUnsafe_4cfef 5 = .ok (.iload_n 3, 1) := by decide +kernel
theorem dJ2_indexOfCharUnsafe_4cfef_6 : decode cJ2_indexOfCharUnsafe_4cfef 6 = .ok (.if_icmp .ge 22, 3) := by decide +kernel
theorem dJ2_indexOfCharUnsafe_4cfef_9 : decode cJ2_indexOfCharUnsafe_4cfef 9 = .ok (.aload_n 0, 1) := by decide +kernel
theorem dJ2_indexOfCharUnsafe_4cfef_10 : decode cJ2_indexOfCharUnsafe_4cfef 10 = .ok (.iload 4, 2) := by decide +kernel
theorem dJ2_indexOfCharUnsafe_4cfef_12 : decode cJ2_indexOfCharUnsafe_4cfef 12 = .ok (.invokestatic 71, 3) := by decide +kernel
theorem dJ2_indexOfCharUnsafe_4cfef_15 : decode cJ2_indexOfCharUnsafe_4cfef 15 = .ok (.iload_n 1, 1) := by decide +kernel
theorem dJ2_indexOfCharUnsafe_4cfef_16 : decode cJ2_indexOfCharUnsafe_4cfef 16 = .ok (.if_icmp .ne 6, 3) := by decide +kernel
theorem dJ2_indexOfCharUnsafe_4cfef_19 : decode cJ2_indexOfCharUnsafe_4cfef 19 = .ok (.iload 4, 2) := by decide +kernel
theorem dJ2_indexOfCharUnsafe_4cfef_21 : decode cJ2_indexOfCharUnsafe_4cfef 21 = .ok (.ireturn, 1) := by decide +kernel
theorem dJ2_indexOfCharUnsafe_4cfef_22 : decode cJ2_indexOfCharUnsafe_4cfef 22 = .ok (.iinc 4 1, 3) := by decide +kernel
theorem dJ2_indexOfCharUnsafe_4cfef_25 : decode cJ2_indexOfCharUnsafe_4cfef 25 = .ok (.goto (-22), 3) := by decide +kernel
theorem dJ2_indexOfCharUnsafe_4cfef_28 : decode cJ2_indexOfCharUnsafe_4cfef 28 = .ok (.iconst (-1), 1) := by decide +kernel
theorem dJ2_indexOfCharUnsafe_4cfef_29 : decode cJ2_indexOfCharUnsafe_4cfef 29 = .ok (.ireturn, 1) := by decide +kernel
theorem dJ2_indexOfSupplementary_4cfef_0 : decode cJ2_indexOfSupplementary_4cfef 0 = .ok (.iload_n 1, 1) := by decide +kernel
theorem dJ2_indexOfSupplementary_4cfef_1 : decode cJ2_indexOfSupplementary_4cfef 1 = .ok (.invokestatic 164, 3) := by decide +kernel
theorem dJ2_indexOfSupplementary_4cfef_4 : decode cJ2_indexOfSupplementary_4cfef 4 = .ok (.ifCond .eq 65, 3) := by decide +kernel
theorem dJ2_indexOfSupplementary_4cfef_7 : decode cJ2_indexOfSupplementary_4cfef 7 = .ok (.iload_n 1, 1) := by decide +kernel
theorem dJ2_indexOfSupplementary_4cfef_8 : decode cJ2_indexOfSupplementary_4cfef 8 = .ok (.invokestatic 157, 3) := by decide +kernel
theorem dJ2_indexOfSupplementary_4cfef_11 : decode cJ2_indexOfSupplementary_4cfef 11 = .ok (.istore 4, 2) := by decide +kernel
theorem dJ2_indexOfSupplementary_4cfef_13 : decode cJ2_indexOfSupplementary_4cfef 13 = .ok (.iload_n 1, 1) := by decide +kernel
theorem dJ2_indexOfSupplementary_4cfef_14 : decode cJ2_indexOfSupplementary_4cfef 14 = .ok (.invokestatic 161, 3) := by decide +kernel
theorem dJ2_indexOfSupplementary_4cfef_17 : decode cJ2_indexOfSupplementary_4cfef 17 = .ok (.istore 5, 2) := by decide +kernel
theorem dJ2_indexOfSupplementary_4cfef_19 : decode cJ2_indexOfSupplementary_4cfef 19 = .ok (.iload_n 2, 1) := by decide +kernel
theorem dJ2_indexOfSupplementary_4cfef_20 : decode cJ2_indexOfSupplementary_4cfef 20 = .ok (.iload_n 3, 1) := by decide +kernel
theorem dJ2_indexOfSupplementary_4cfef_21 : decode cJ2_indexOfSupplementary_4cfef 21 = .ok (.aload_n 0, 1) := by decide +kernel
theorem dJ2_indexOfSupplementary_4cfef_22 : decode cJ2_indexOfSupplementary_4cfef 22 = .ok (.invokestatic 96, 3) := by decide +kernel
theorem dJ2_indexOfSupplementary_4cfef_25 : decode cJ2_indexOfSupplementary_4cfef 25 = .ok (.iload_n 2, 1) := by decide +kernel
theorem dJ2_indexOfSupplementary_4cfef_26 : decode cJ2_indexOfSupplementary_4cfef 26 = .ok (.istore 6, 2) := by decide +kernel
theorem dJ2_indexOfSupplementary_4cfef_28 : decode cJ2_indexOfSupplementary_4cfef 28 = .ok (.iload 6, 2) := by decide +kernel
theorem dJ2_indexOfSupplementary_4cfef_30 : decode cJ2_indexOfSupplementary_4cfef 30 = .ok (.iload_n 3, 1) := by decide +kernel
theorem dJ2_indexOfSupplementary_4cfef_31 : decode cJ2_indexOfSupplementary_4cfef 31 = .ok (.iconst 1, 1) := by decide +kernel
theorem dJ2_indexOfSupplementary_4cfef_32 : decode cJ2_indexOfSupplementary_4cfef 32 = .ok (.isub, 1) := by decide +kernel
theorem dJ2_indexOfSupplementary_4cfef_33 : decode cJ2_indexOfSupplementary_4cfef 33 = .ok (.if_icmp .ge 36, 3) := by decide +kernel
theorem dJ2_indexOfSupplementary_4cfef_36 : decode cJ2_indexOfSupplementary_4cfef 36 = .ok (.aload_n 0, 1) := by decide +kernel
theorem dJ2_indexOfSupplementary_4cfef_37 : decode cJ2_indexOfSupplementary_4cfef 37 = .ok (.iload 6, 2) := by decide +kernel
theorem dJ2_indexOfSupplementary_4cfef_39 : decode cJ2_indexOfSupplementary_4cfef 39 = .ok (.invokestatic 71, 3) := by decide +kernel
theorem dJ2_indexOfSupplementary_4cfef_42 : decode cJ2_indexOfSupplementary_4cfef 42 = .ok (.iload 4, 2) := by decide +kernel
theorem dJ2_indexOfSupplementary_4cfef_44 : decode cJ2_indexOfSupplementary_4cfef 44 = .ok (.if_icmp .ne 19, 3) := by decide +kernel
theorem dJ2_indexOfSupplementary_4cfef_47 : decode cJ2_indexOfSupplementary_4cfef 47 = .ok (.aload_n 0, 1) := by decide +kernel
theorem dJ2_indexOfSupplementary_4cfef_48 : decode cJ2_indexOfSupplementary_4cfef 48 = .ok (.iload 6, 2) := by decide +kernel
theorem dJ2_indexOfSupplementary_4cfef_50 : decode cJ2_indexOfSupplementary_4cfef 50 = .ok (.iconst 1, 1) := by decide +kernel
theorem dJ2_indexOfSupplementary_4cfef_51 : decode cJ2_indexOfSupplementary_4cfef 51 = .ok (.iadd, 1) := by decide +kernel
theorem dJ2_indexOfSupplementary_4cfef_52 : decode cJ2_indexOfSupplementary_4cfef 52 = .ok (.invokestatic 71, 3) := by decide +kernel
theorem dJ2_indexOfSupplementary_4cfef_55 : decode cJ2_indexOfSupplementary_4cfef 55 = .ok (.iload 5, 2) := by decide +kernel
theorem dJ2_indexOfSupplementary_4cfef_57 : decode cJ2_indexOfSupplementary_4cfef 57 = .ok (.if_icmp .ne 6, 3) := by decide +kernel
theorem dJ2_indexOfSupplementary_4cfef_60 : decode cJ2_indexOfSupplementary_4cfef 60 = .ok (.iload 6, 2) := by decide +kernel
theorem dJ2_indexOfSupplementary_4cfef_62 : decode cJ2_indexOfSupplementary_4cfef 62 = .ok (.ireturn, 1) := by decide +kernel
theorem dJ2_indexOfSupplementary_4cfef_63 : decode cJ2_indexOfSupplementary_4cfef 63 = .ok (.iinc 6 1, 3) := by decide +kernel
theorem dJ2_indexOfSupplementary_4cfef_66 : decode cJ2_indexOfSupplementary_4cfef 66 = .ok (.goto (-38), 3) := by decide +kernel
theorem dJ2_indexOfSupplementary_4cfef_69 : decode cJ2_indexOfSupplementary_4cfef 69 = .ok (.iconst (-1), 1) := by decide +kernel
theorem dJ2_indexOfSupplementary_4cfef_70 : decode cJ2_indexOfSupplementary_4cfef 70 = .ok (.ireturn, 1) := by decide +kernel
theorem dJ2_charAt_3b067_0 : decode cJ2_charAt_3b067 0 = .ok (.iload_n 1, 1) := by decide +kernel
theorem dJ2_charAt_3b067_1 : decode cJ2_charAt_3b067 1 = .ok (.aload_n 0, 1) := by decide +kernel
theorem dJ2_charAt_3b067_2 : decode cJ2_charAt_3b067 2 = .ok (.invokestatic 67, 3) := by decide +kernel
theorem dJ2_charAt_3b067_5 : decode cJ2_charAt_3b067 5 = .ok (.aload_n 0, 1) := by decide +kernel
theorem dJ2_charAt_3b067_6 : decode cJ2_charAt_3b067 6 = .ok (.iload_n 1, 1) := by decide +kernel
theorem dJ2_charAt_3b067_7 : decode cJ2_charAt_3b067 7 = .ok (.invokestatic 71, 3) := by decide +kernel
theorem dJ2_charAt_3b067_10 : decode cJ2_charAt_3b067 10 = .ok (.ireturn, 1) := by decide +kernel
theorem dJ2_checkIndex_2214a_0 : decode cJ2_checkIndex_2214a 0 = .ok (.iload_n 0, 1) := by decide +kernel
theorem dJ2_checkIndex_2214a_1 : decode cJ2_checkIndex_2214a 1 = .ok (.aload_n 1, 1) := by decide +kernel
theorem dJ2_checkIndex_2214a_2 : decode cJ2_checkIndex_2214a 2 = .ok (.invokestatic 48, 3) := by decide +kernel
theorem dJ2_checkIndex_2214a_5 : decode cJ2_checkIndex_2214a 5 = .ok (.invokestatic 414, 3) := by decide +kernel
theorem dJ2_checkIndex_2214a_8 : decode cJ2_checkIndex_2214a 8 = .ok (.return_, 1) := by decide +kernel
theorem dJ2_checkBoundsBeginEnd_d044e_0 : decode cJ2_checkBoundsBeginEnd_d044e 0 = .ok (.iload_n 0, 1) := by decide +kernel
theorem dJ2_checkBoundsBeginEnd_d044e_1 : decode cJ2_checkBoundsBeginEnd_d044e 1 = .ok (.iload_n 1, 1) := by decide +kernel
theorem dJ2_checkBoundsBeginEnd_d044e_2 : decode cJ2_checkBoundsBeginEnd_d044e 2 = .ok (.aload_n 2, 1) := by decide +kernel
theorem dJ2_checkBoundsBeginEnd_d044e_3 : decode cJ2_checkBoundsBeginEnd_d044e 3 = .ok (.invokestatic 48, 3) := by decide +kernel
theorem dJ2_checkBoundsBeginEnd_d044e_6 : decode cJ2_checkBoundsBeginEnd_d044e 6 = .ok (.invokestatic 241, 3) := by decide +kernel
theorem dJ2_checkBoundsBeginEnd_d044e_9 : decode cJ2_checkBoundsBeginEnd_d044e 9 = .ok (.return_, 1) := by decide +kernel
theorem dJ7_fill_d0a16_0 : decode cJ7_fill_d0a16 0 = .ok (.iconst 0, 1) := by decide +kernel
theorem dJ7_fill_d0a16_1 : decode cJ7_fill_d0a16 1 = .ok (.istore_n 3, 1) := by decide +kernel
theorem dJ7_fill_d0a16_2 : decode cJ7_fill_d0a16 2 = .ok (.aload_n 0, 1) := by decide +kernel
theorem dJ7_fill_d0a16_3 : decode cJ7_fill_d0a16 3 = .ok (.arraylength, 1) := by decide +kernel
theorem dJ7_fill_d0a16_4 : decode cJ7_fill_d0a16 4 = .ok (.istore 4, 2) := by decide +kernel
theorem dJ7_fill_d0a16_6 : decode cJ7_fill_d0a16 6 = .ok (.iload_n 3, 1) := by decide +kernel
theorem dJ7_fill_d0a16_7 : decode cJ7_fill_d0a16 7 = .ok (.iload 4, 2) := by decide +kernel
theorem dJ7_fill_d0a16_9 : decode cJ7_fill_d0a16 9 = .ok (.if_icmp .ge 13, 3) := by decide +kernel
theorem dJ7_fill_d0a16_12 : decode cJ7_fill_d0a16 12 = .ok (.aload_n 0, 1) := by decide +kernel
theorem dJ7_fill_d0a16_13 : decode cJ7_fill_d0a16 13 = .ok (.iload_n 3, 1) := by decide +kernel
theorem dJ7_fill_d0a16_14 : decode cJ7_fill_d0a16 14 = .ok (.lload_n 1, 1) := by decide +kernel
theorem dJ7_fill_d0a16_15 : decode cJ7_fill_d0a16 15 = .ok (.lastore, 1) := by decide +kernel
theorem dJ7_fill_d0a16_16 : decode cJ7_fill_d0a16 16 = .ok (.iinc 3 1, 3) := by decide +kernel
theorem dJ7_fill_d0a16_19 : decode cJ7_fill_d0a16 19 = .ok (.goto (-13), 3) := by decide +kernel
theorem dJ7_fill_d0a16_22 : decode cJ7_fill_d0a16 22 = .ok (.return_, 1) := by decide +kernel
theorem dJ7_fill_53178_0 : decode cJ7_fill_53178 0 = .ok (.iconst 0, 1) := by decide +kernel
theorem dJ7_fill_53178_1 : decode cJ7_fill_53178 1 = .ok (.istore_n 2, 1) := by decide +kernel
theorem dJ7_fill_53178_2 : decode cJ7_fill_53178 2 = .ok (.aload_n 0, 1) := by decide +kernel
theorem dJ7_fill_53178_3 : decode cJ7_fill_53178 3 = .ok (.arraylength, 1) := by decide +kernel
theorem dJ7_fill_53178_4 : decode cJ7_fill_53178 4 = .ok (.istore_n 3, 1) := by decide +kernel
theorem dJ7_fill_53178_5 : decode cJ7_fill_53178 5 = .ok (.iload_n 2, 1) := by decide +kernel
theorem dJ7_fill_53178_6 : decode cJ7_fill_53178 6 = .ok (.iload_n 3, 1) := by decide +kernel
theorem dJ7_fill_53178_7 : decode cJ7_fill_53178 7 = .ok (.if_icmp .ge 13, 3) := by decide +kernel
theorem dJ7_fill_53178_10 : decode cJ7_fill_53178 10 = .ok (.aload_n 0, 1) := by decide +kernel
theorem dJ7_fill_53178_11 : decode cJ7_fill_53178 11 = .ok (.iload_n 2, 1) := by decide +kernel
theorem dJ7_fill_53178_12 : decode cJ7_fill_53178 12 = .ok (.iload_n 1, 1) := by decide +kernel
theorem dJ7_fill_53178_13 : decode cJ7_fill_53178 13 = .ok (.iastore, 1) := by decide +kernel
theorem dJ7_fill_53178_14 : decode cJ7_fill_53178 14 = .ok (.iinc 2 1, 3) := by decide +kernel
theorem dJ7_fill_53178_17 : decode cJ7_fill_53178 17 = .ok (.goto (-12), 3) := by decide +kernel
theorem dJ7_fill_53178_20 : decode cJ7_fill_53178 20 = .ok (.return_, 1) := by decide +kernel
theorem dJ7_copyOf_59c91_0 : decode cJ7_copyOf_59c91 0 = .ok (.iload_n 1, 1) := by decide +kernel
theorem dJ7_copyOf_59c91_1 : decode cJ7_copyOf_59c91 1 = .ok (.aload_n 0, 1) := by decide +kernel
theorem dJ7_copyOf_59c91_2 : decode cJ7_copyOf_59c91 2 = .ok (.arraylength, 1) := by decide +kernel
theorem dJ7_copyOf_59c91_3 : decode cJ7_copyOf_59c91 3 = .ok (.if_icmp .ne 11, 3) := by decide +kernel
theorem dJ7_copyOf_59c91_6 : decode cJ7_copyOf_59c91 6 = .ok (.aload_n 0, 1) := by decide +kernel
theorem dJ7_copyOf_59c91_7 : decode cJ7_copyOf_59c91 7 = .ok (.invokevirtual 316, 3) := by decide +kernel
theorem dJ7_copyOf_59c91_10 : decode cJ7_copyOf_59c91 10 = .ok (.checkcast 317, 3) := by decide +kernel
theorem dJ7_copyOf_59c91_13 : decode cJ7_copyOf_59c91 13 = .ok (.areturn, 1) := by decide +kernel
theorem dJ7_copyOf_59c91_14 : decode cJ7_copyOf_59c91 14 = .ok (.iload_n 1, 1) := by decide +kernel
theorem dJ7_copyOf_59c91_15 : decode cJ7_copyOf_59c91 15 = .ok (.newarray .int, 2) := by decide +kernel
theorem dJ7_copyOf_59c91_17 : decode cJ7_copyOf_59c91 17 = .ok (.astore_n 2, 1) := by decide +kernel
theorem dJ7_copyOf_59c91_18 : decode cJ7_copyOf_59c91 18 = .ok (.aload_n 0, 1) := by decide +kernel
theorem dJ7_copyOf_59c91_19 : decode cJ7_copyOf_59c91 19 = .ok (.iconst 0, 1) := by decide +kernel
theorem dJ7_copyOf_59c91_20 : decode cJ7_copyOf_59c91 20 = .ok (.aload_n 2, 1) := by decide +kernel
theorem dJ7_copyOf_59c91_21 : decode cJ7_copyOf_59c91 21 = .ok (.iconst 0, 1) := by decide +kernel
theorem dJ7_copyOf_59c91_22 : decode cJ7_copyOf_59c91 22 = .ok (.aload_n 0, 1) := by decide +kernel
theorem dJ7_copyOf_59c91_23 : decode cJ7_copyOf_59c91 23 = .ok (.arraylength, 1) := by decide +kernel
theorem dJ7_copyOf_59c91_24 : decode cJ7_copyOf_59c91 24 = .ok (.iload_n 1, 1) := by decide +kernel
theorem dJ7_copyOf_59c91_25 : decode cJ7_copyOf_59c91 25 = .ok (.invokestatic 304, 3) := by decide +kernel
theorem dJ7_copyOf_59c91_28 : decode cJ7_copyOf_59c91 28 = .ok (.invokestatic 150, 3) := by decide +kernel
theorem dJ7_copyOf_59c91_31 : decode cJ7_copyOf_59c91 31 = .ok (.aload_n 2, 1) := by decide +kernel
theorem dJ7_copyOf_59c91_32 : decode cJ7_copyOf_59c91 32 = .ok (.areturn, 1) := by decide +kernel
theorem dJ3_checkIndex_8e157_0 : decode cJ3_checkIndex_8e157 0 = .ok (.iload_n 0, 1) := by decide +kernel
theorem dJ3_checkIndex_8e157_1 : decode cJ3_checkIndex_8e157 1 = .ok (.ifCond .lt 8, 3) := by decide +kernel
theorem dJ3_checkIndex_8e157_4 : decode cJ3_checkIndex_8e157 4 = .ok (.iload_n 0, 1) := by decide +kernel
theorem dJ3_checkIndex_8e157_5 : decode cJ3_checkIndex_8e157 5 = .ok (.iload_n 1, 1) := by decide +kernel
theorem dJ3_checkIndex_8e157_6 : decode cJ3_checkIndex_8e157 6 = .ok (.if_icmp .lt 10, 3) := by decide +kernel
theorem dJ3_checkIndex_8e157_9 : decode cJ3_checkIndex_8e157 9 = .ok (.aload_n 2, 1) := by decide +kernel
theorem dJ3_checkIndex_8e157_10 : decode cJ3_checkIndex_8e157 10 = .ok (.iload_n 0, 1) := by decide +kernel
