theorem dX12_tries_213 : decode cX12_tries 213 = .ok (.return_, 1) := by decide +kernel
theorem dX12_best_0 : decode cX12_best 0 = .ok (.iload_n 2, 1) := by decide +kernel
theorem dX12_best_1 : decode cX12_best 1 = .ok (.bipush (-2), 2) := by decide +kernel
theorem dX12_best_3 : decode cX12_best 3 = .ok (.iconst 2, 1) := by decide +kernel
theorem dX12_best_4 : decode cX12_best 4 = .ok (.invokestatic 117, 3) := by decide +kernel
theorem dX12_best_7 : decode cX12_best 7 = .ok (.ifCond .ne 5, 3) := by decide +kernel
theorem dX12_best_10 : decode cX12_best 10 = .ok (.iconst (-1), 1) := by decide +kernel
theorem dX12_best_11 : decode cX12_best 11 = .ok (.ireturn, 1) := by decide +kernel
theorem dX12_best_12 : decode cX12_best 12 = .ok (.iload_n 1, 1) := by decide +kernel
theorem dX12_best_13 : decode cX12_best 13 = .ok (.iconst 1, 1) := by decide +kernel
theorem dX12_best_14 : decode cX12_best 14 = .ok (.iconst 3, 1) := by decide +kernel
theorem dX12_best_15 : decode cX12_best 15 = .ok (.invokestatic 117, 3) := by decide +kernel
theorem dX12_best_18 : decode cX12_best 18 = .ok (.ifCond .ne 6, 3) := by decide +kernel
theorem dX12_best_21 : decode cX12_best 21 = .ok (.bipush (-2), 2) := by decide +kernel
theorem dX12_best_23 : decode cX12_best 23 = .ok (.ireturn, 1) := by decide +kernel
theorem dX12_best_24 : decode cX12_best 24 = .ok (.aload_n 0, 1) := by decide +kernel
theorem dX12_best_25 : decode cX12_best 25 = .ok (.iconst 0, 1) := by decide +kernel
theorem dX12_best_26 : decode cX12_best 26 = .ok (.invokevirtual 237, 3) := by decide +kernel
theorem dX12_best_29 : decode cX12_best 29 = .ok (.invokestatic 240, 3) := by decide +kernel
theorem dX12_best_32 : decode cX12_best 32 = .ok (.iload_n 1, 1) := by decide +kernel
theorem dX12_best_33 : decode cX12_best 33 = .ok (.if_icmp .ge 6, 3) := by decide +kernel
theorem dX12_best_36 : decode cX12_best 36 = .ok (.bipush (-5), 2) := by decide +kernel
theorem dX12_best_38 : decode cX12_best 38 = .ok (.ireturn, 1) := by decide +kernel
theorem dX12_best_39 : decode cX12_best 39 = .ok (.aload_n 0, 1) := by decide +kernel
theorem dX12_best_40 : decode cX12_best 40 = .ok (.iconst (-1), 1) := by decide +kernel
theorem dX12_best_41 : decode cX12_best 41 = .ok (.putfield 278, 3) := by decide +kernel
theorem dX12_best_44 : decode cX12_best 44 = .ok (.aload_n 0, 1) := by decide +kernel
theorem dX12_best_45 : decode cX12_best 45 = .ok (.iconst 0, 1) := by decide +kernel
theorem dX12_best_46 : decode cX12_best 46 = .ok (.putfield 281, 3) := by decide +kernel
theorem dX12_best_49 : decode cX12_best 49 = .ok (.aload_n 0, 1) := by decide +kernel
theorem dX12_best_50 : decode cX12_best 50 = .ok (.iconst 0, 1) := by decide +kernel
theorem dX12_best_51 : decode cX12_best 51 = .ok (.iload_n 1, 1) := by decide +kernel
theorem dX12_best_52 : decode cX12_best 52 = .ok (.invokevirtual 284, 3) := by decide +kernel
theorem dX12_best_55 : decode cX12_best 55 = .ok (.iload_n 2, 1) := by decide +kernel
theorem dX12_best_56 : decode cX12_best 56 = .ok (.bipush (-2), 2) := by decide +kernel
theorem dX12_best_58 : decode cX12_best 58 = .ok (.if_icmp .ne 10, 3) := by decide +kernel
theorem dX12_best_61 : decode cX12_best 61 = .ok (.aload_n 0, 1) := by decide +kernel
theorem dX12_best_62 : decode cX12_best 62 = .ok (.getfield 278, 3) := by decide +kernel
theorem dX12_best_65 : decode cX12_best 65 = .ok (.goto 31, 3) := by decide +kernel
theorem dX12_best_68 : decode cX12_best 68 = .ok (.iload_n 2, 1) := by decide +kernel
theorem dX12_best_69 : decode cX12_best 69 = .ok (.iconst (-1), 1) := by decide +kernel
theorem dX12_best_70 : decode cX12_best 70 = .ok (.if_icmp .ne 10, 3) := by decide +kernel
theorem dX12_best_73 : decode cX12_best 73 = .ok (.aload_n 0, 1) := by decide +kernel
theorem dX12_best_74 : decode cX12_best 74 = .ok (.getfield 281, 3) := by decide +kernel
theorem dX12_best_77 : decode cX12_best 77 = .ok (.goto 19, 3) := by decide +kernel
theorem dX12_best_80 : decode cX12_best 80 = .ok (.iload_n 2, 1) := by decide +kernel
theorem dX12_best_81 : decode cX12_best 81 = .ok (.iload_n 1, 1) := by decide +kernel
theorem dX12_best_82 : decode cX12_best 82 = .ok (.if_icmp .ge 12, 3) := by decide +kernel
theorem dX12_best_85 : decode cX12_best 85 = .ok (.aload_n 0, 1) := by decide +kernel
theorem dX12_best_86 : decode cX12_best 86 = .ok (.getfield 97, 3) := by decide +kernel
theorem dX12_best_89 : decode cX12_best 89 = .ok (.iload_n 2, 1) := by decide +kernel
theorem dX12_best_90 : decode cX12_best 90 = .ok (.iaload, 1) := by decide +kernel
theorem dX12_best_91 : decode cX12_best 91 = .ok (.goto 5, 3) := by decide +kernel
theorem dX12_best_94 : decode cX12_best 94 = .ok (.bipush (-5), 2) := by decide +kernel
theorem dX12_best_96 : decode cX12_best 96 = .ok (.ireturn, 1) := by decide +kernel
theorem dX12_enough_0 : decode cX12_enough 0 = .ok (.aload_n 0, 1) := by decide +kernel
theorem dX12_enough_1 : decode cX12_enough 1 = .ok (.iconst 0, 1) := by decide +kernel
theorem dX12_enough_2 : decode cX12_enough 2 = .ok (.invokevirtual 237, 3) := by decide +kernel
theorem dX12_enough_5 : decode cX12_enough 5 = .ok (.istore_n 2, 1) := by decide +kernel
theorem dX12_enough_6 : decode cX12_enough 6 = .ok (.bipush (-5), 2) := by decide +kernel
theorem dX12_enough_8 : decode cX12_enough 8 = .ok (.istore_n 3, 1) := by decide +kernel
theorem dX12_enough_9 : decode cX12_enough 9 = .ok (.iconst 0, 1) := by decide +kernel
theorem dX12_enough_10 : decode cX12_enough 10 = .ok (.istore 4, 2) := by decide +kernel
theorem dX12_enough_12 : decode cX12_enough 12 = .ok (.iload 4, 2) := by decide +kernel
theorem dX12_enough_14 : decode cX12_enough 14 = .ok (.iconst 1, 1) := by decide +kernel
theorem dX12_enough_15 : decode cX12_enough 15 = .ok (.aload_n 0, 1) := by decide +kernel
theorem dX12_enough_16 : decode cX12_enough 16 = .ok (.getfield 114, 3) := by decide +kernel
theorem dX12_enough_19 : decode cX12_enough 19 = .ok (.ishl, 1) := by decide +kernel
theorem dX12_enough_20 : decode cX12_enough 20 = .ok (.if_icmp .ge 73, 3) := by decide +kernel
theorem dX12_enough_23 : decode cX12_enough 23 = .ok (.iload 4, 2) := by decide +kernel
theorem dX12_enough_25 : decode cX12_enough 25 = .ok (.iload_n 2, 1) := by decide +kernel
theorem dX12_enough_26 : decode cX12_enough 26 = .ok (.iconst (-1), 1) := by decide +kernel
theorem dX12_enough_27 : decode cX12_enough 27 = .ok (.ixor, 1) := by decide +kernel
theorem dX12_enough_28 : decode cX12_enough 28 = .ok (.iand, 1) := by decide +kernel
theorem dX12_enough_29 : decode cX12_enough 29 = .ok (.ifCond .ne 58, 3) := by decide +kernel
theorem dX12_enough_32 : decode cX12_enough 32 = .ok (.iload_n 3, 1) := by decide +kernel
theorem dX12_enough_33 : decode cX12_enough 33 = .ok (.bipush (-5), 2) := by decide +kernel
theorem dX12_enough_35 : decode cX12_enough 35 = .ok (.if_icmp .eq 18, 3) := by decide +kernel
theorem dX12_enough_38 : decode cX12_enough 38 = .ok (.iload 4, 2) := by decide +kernel
theorem dX12_enough_40 : decode cX12_enough 40 = .ok (.invokestatic 240, 3) := by decide +kernel
theorem dX12_enough_43 : decode cX12_enough 43 = .ok (.iload_n 3, 1) := by decide +kernel
theorem dX12_enough_44 : decode cX12_enough 44 = .ok (.invokestatic 240, 3) := by decide +kernel
theorem dX12_enough_47 : decode cX12_enough 47 = .ok (.if_icmp .lt 6, 3) := by decide +kernel
theorem dX12_enough_50 : decode cX12_enough 50 = .ok (.goto 37, 3) := by decide +kernel
theorem dX12_enough_53 : decode cX12_enough 53 = .ok (.aload_n 0, 1) := by decide +kernel
theorem dX12_enough_54 : decode cX12_enough 54 = .ok (.aload_n 0, 1) := by decide +kernel
theorem dX12_enough_55 : decode cX12_enough 55 = .ok (.getfield 91, 3) := by decide +kernel
theorem dX12_enough_58 : decode cX12_enough 58 = .ok (.invokevirtual 271, 3) := by decide +kernel
theorem dX12_enough_61 : decode cX12_enough 61 = .ok (.aload_n 0, 1) := by decide +kernel
theorem dX12_enough_62 : decode cX12_enough 62 = .ok (.iload 4, 2) := by decide +kernel
theorem dX12_enough_64 : decode cX12_enough 64 = .ok (.invokevirtual 288, 3) := by decide +kernel
theorem dX12_enough_67 : decode cX12_enough 67 = .ok (.aload_n 0, 1) := by decide +kernel
theorem dX12_enough_68 : decode cX12_enough 68 = .ok (.getfield 9, 3) := by decide +kernel
theorem dX12_enough_71 : decode cX12_enough 71 = .ok (.iload_n 1, 1) := by decide +kernel
theorem dX12_enough_72 : decode cX12_enough 72 = .ok (.iaload, 1) := by decide +kernel
theorem dX12_enough_73 : decode cX12_enough 73 = .ok (.ifCond .ne 6, 3) := by decide +kernel
theorem dX12_enough_76 : decode cX12_enough 76 = .ok (.iload 4, 2) := by decide +kernel
theorem dX12_enough_78 : decode cX12_enough 78 = .ok (.istore_n 3, 1) := by decide +kernel
theorem dX12_enough_79 : decode cX12_enough 79 = .ok (.aload_n 0, 1) := by decide +kernel
theorem dX12_enough_80 : decode cX12_enough 80 = .ok (.aload_n 0, 1) := by decide +kernel
theorem dX12_enough_81 : decode cX12_enough 81 = .ok (.getfield 91, 3) := by decide +kernel
theorem dX12_enough_84 : decode cX12_enough 84 = .ok (.invokevirtual 275, 3) := by decide +kernel
theorem dX12_enough_87 : decode cX12_enough 87 = .ok (.iinc 4 1, 3) := by decide +kernel
theorem dX12_enough_90 : decode cX12_enough 90 = .ok (.goto (-78), 3) := by decide +kernel
theorem dX12_enough_93 : decode cX12_enough 93 = .ok (.iload_n 3, 1) := by decide +kernel
theorem dX12_enough_94 : decode cX12_enough 94 = .ok (.ireturn, 1) := by decide +kernel
theorem dX12_gift_0 : decode cX12_gift 0 = .ok (.aload_n 0, 1) := by decide +kernel
theorem dX12_gift_1 : decode cX12_gift 1 = .ok (.getfield 27, 3) := by decide +kernel
theorem dX12_gift_4 : decode cX12_gift 4 = .ok (.iload_n 1, 1) := by decide +kernel
theorem dX12_gift_5 : decode cX12_gift 5 = .ok (.iaload, 1) := by decide +kernel
theorem dX12_gift_6 : decode cX12_gift 6 = .ok (.istore_n 2, 1) := by decide +kernel
theorem dX12_gift_7 : decode cX12_gift 7 = .ok (.iconst 0, 1) := by decide +kernel
theorem dX12_gift_8 : decode cX12_gift 8 = .ok (.istore_n 3, 1) := by decide +kernel
theorem dX12_gift_9 : decode cX12_gift 9 = .ok (.iconst (-1), 1) := by decide +kernel
theorem dX12_gift_10 : decode cX12_gift 10 = .ok (.istore 4, 2) := by decide +kernel
theorem dX12_gift_12 : decode cX12_gift 12 = .ok (.iconst 0, 1) := by decide +kernel
theorem dX12_gift_13 : decode cX12_gift 13 = .ok (.istore 5, 2) := by decide +kernel
theorem dX12_gift_15 : decode cX12_gift 15 = .ok (.iconst 0, 1) := by decide +kernel
theorem dX12_gift_16 : decode cX12_gift 16 = .ok (.istore 6, 2) := by decide +kernel
theorem dX12_gift_18 : decode cX12_gift 18 = .ok (.iload 6, 2) := by decide +kernel
theorem dX12_gift_20 : decode cX12_gift 20 = .ok (.iconst 4, 1) := by decide +kernel
theorem dX12_gift_21 : decode cX12_gift 21 = .ok (.if_icmp .ge 92, 3) := by decide +kernel
theorem dX12_gift_24 : decode cX12_gift 24 = .ok (.aload_n 0, 1) := by decide +kernel
theorem dX12_gift_25 : decode cX12_gift 25 = .ok (.getfield 27, 3) := by decide +kernel
theorem dX12_gift_28 : decode cX12_gift 28 = .ok (.iload_n 1, 1) := by decide +kernel
theorem dX12_gift_29 : decode cX12_gift 29 = .ok (.iload 6, 2) := by decide +kernel
theorem dX12_gift_31 : decode cX12_gift 31 = .ok (.iastore, 1) := by decide +kernel
theorem dX12_gift_32 : decode cX12_gift 32 = .ok (.aload_n 0, 1) := by decide +kernel
theorem dX12_gift_33 : decode cX12_gift 33 = .ok (.aload_n 0, 1) := by decide +kernel
theorem dX12_gift_34 : decode cX12_gift 34 = .ok (.getfield 91, 3) := by decide +kernel
theorem dX12_gift_37 : decode cX12_gift 37 = .ok (.invokevirtual 271, 3) := by decide +kernel
theorem dX12_gift_40 : decode cX12_gift 40 = .ok (.aload_n 0, 1) := by decide +kernel
theorem dX12_gift_41 : decode cX12_gift 41 = .ok (.aload_n 0, 1) := by decide +kernel
theorem dX12_gift_42 : decode cX12_gift 42 = .ok (.iconst 0, 1) := by decide +kernel
theorem dX12_gift_43 : decode cX12_gift 43 = .ok (.invokevirtual 237, 3) := by decide +kernel
theorem dX12_gift_46 : decode cX12_gift 46 = .ok (.invokevirtual 288, 3) := by decide +kernel
theorem dX12_gift_49 : decode cX12_gift 49 = .ok (.aload_n 0, 1) := by decide +kernel
theorem dX12_gift_50 : decode cX12_gift 50 = .ok (.invokevirtual 262, 3) := by decide +kernel
theorem dX12_gift_53 : decode cX12_gift 53 = .ok (.invokestatic 240, 3) := by decide +kernel
theorem dX12_gift_56 : decode cX12_gift 56 = .ok (.istore 7, 2) := by decide +kernel
theorem dX12_gift_58 : decode cX12_gift 58 = .ok (.aload_n 0, 1) := by decide +kernel
theorem dX12_gift_59 : decode cX12_gift 59 = .ok (.invokevirtual 265, 3) := by decide +kernel
theorem dX12_gift_62 : decode cX12_gift 62 = .ok (.istore 8, 2) := by decide +kernel
theorem dX12_gift_64 : decode cX12_gift 64 = .ok (.aload_n 0, 1) := by decide +kernel
theorem dX12_gift_65 : decode cX12_gift 65 = .ok (.aload_n 0, 1) := by decide +kernel
theorem dX12_gift_66 : decode cX12_gift 66 = .ok (.getfield 91, 3) := by decide +kernel
theorem dX12_gift_69 : decode cX12_gift 69 = .ok (.invokevirtual 275, 3) := by decide +kernel
theorem dX12_gift_72 : decode cX12_gift 72 = .ok (.iload 7, 2) := by decide +kernel
theorem dX12_gift_74 : decode cX12_gift 74 = .ok (.iload 4, 2) := by decide +kernel
theorem dX12_gift_76 : decode cX12_gift 76 = .ok (.if_icmp .lt 31, 3) := by decide +kernel
theorem dX12_gift_79 : decode cX12_gift 79 = .ok (.iload 7, 2) := by decide +kernel
theorem dX12_gift_81 : decode cX12_gift 81 = .ok (.iload 4, 2) := by decide +kernel
theorem dX12_gift_83 : decode cX12_gift 83 = .ok (.if_icmp .ne 13, 3) := by decide +kernel
theorem dX12_gift_86 : decode cX12_gift 86 = .ok (.iload 8, 2) := by decide +kernel
theorem dX12_gift_88 : decode cX12_gift 88 = .ok (.iload 5, 2) := by decide +kernel
theorem dX12_gift_90 : decode cX12_gift 90 = .ok (.if_icmp .lt 6, 3) := by decide +kernel
theorem dX12_gift_93 : decode cX12_gift 93 = .ok (.goto 14, 3) := by decide +kernel
theorem dX12_gift_96 : decode cX12_gift 96 = .ok (.iload 7, 2) := by decide +kernel
theorem dX12_gift_98 : decode cX12_gift 98 = .ok (.istore 4, 2) := by decide +kernel
theorem dX12_gift_100 : decode cX12_gift 100 = .ok (.iload 8, 2) := by decide +kernel
theorem dX12_gift_102 : decode cX12_gift 102 = .ok (.istore 5, 2) := by decide +kernel
theorem dX12_gift_104 : decode cX12_gift 104 = .ok (.iload 6, 2) := by decide +kernel
theorem dX12_gift_106 : decode cX12_gift 106 = .ok (.istore_n 3, 1) := by decide +kernel
theorem dX12_gift_107 : decode cX12_gift 107 = .ok (.iinc 6 1, 3) := by decide +kernel
theorem dX12_gift_110 : decode cX12_gift 110 = .ok (.goto (-92), 3) := by decide +kernel
theorem dX12_gift_113 : decode cX12_gift 113 = .ok (.aload_n 0, 1) := by decide +kernel
theorem dX12_gift_114 : decode cX12_gift 114 = .ok (.getfield 27, 3) := by decide +kernel
theorem dX12_gift_117 : decode cX12_gift 117 = .ok (.iload_n 1, 1) := by decide +kernel
theorem dX12_gift_118 : decode cX12_gift 118 = .ok (.iload_n 2, 1) := by decide +kernel
theorem dX12_gift_119 : decode cX12_gift 119 = .ok (.iastore, 1) := by decide +kernel
theorem dX12_gift_120 : decode cX12_gift 120 = .ok (.iload_n 3, 1) := by decide +kernel
theorem dX12_gift_121 : decode cX12_gift 121 = .ok (.ireturn, 1) := by decide +kernel
theorem dX12_mark_0 : decode cX12_mark 0 = .ok (.iload_n 1, 1) := by decide +kernel
theorem dX12_mark_1 : decode cX12_mark 1 = .ok (.iconst (-1), 1) := by decide +kernel
theorem dX12_mark_2 : decode cX12_mark 2 = .ok (.if_icmp .ne 10, 3) := by decide +kernel
theorem dX12_mark_5 : decode cX12_mark 5 = .ok (.aload_n 0, 1) := by decide +kernel
theorem dX12_mark_6 : decode cX12_mark 6 = .ok (.iconst 0, 1) := by decide +kernel
theorem dX12_mark_7 : decode cX12_mark 7 = .ok (.putfield 291, 3) := by decide +kernel
theorem dX12_mark_10 : decode cX12_mark 10 = .ok (.iconst 0, 1) := by decide +kernel
theorem dX12_mark_11 : decode cX12_mark 11 = .ok (.ireturn, 1) := by decide +kernel
theorem dX12_mark_12 : decode cX12_mark 12 = .ok (.aload_n 0, 1) := by decide +kernel
theorem dX12_mark_13 : decode cX12_mark 13 = .ok (.iload_n 1, 1) := by decide +kernel
theorem dX12_mark_14 : decode cX12_mark 14 = .ok (.invokevirtual 125, 3) := by decide +kernel
theorem dX12_mark_17 : decode cX12_mark 17 = .ok (.ifCond .ne 5, 3) := by decide +kernel
theorem dX12_mark_20 : decode cX12_mark 20 = .ok (.iconst (-1), 1) := by decide +kernel
theorem dX12_mark_21 : decode cX12_mark 21 = .ok (.ireturn, 1) := by decide +kernel
theorem dX12_mark_22 : decode cX12_mark 22 = .ok (.iload_n 2, 1) := by decide +kernel
theorem dX12_mark_23 : decode cX12_mark 23 = .ok (.iconst 0, 1) := by decide +kernel
theorem dX12_mark_24 : decode cX12_mark 24 = .ok (.bipush 12, 2) := by decide +kernel
theorem dX12_mark_26 : decode cX12_mark 26 = .ok (.invokestatic 117, 3) := by decide +kernel
theorem dX12_mark_29 : decode cX12_mark 29 = .ok (.ifCond .eq 14, 3) := by decide +kernel
theorem dX12_mark_32 : decode cX12_mark 32 = .ok (.iload_n 3, 1) := by decide +kernel
theorem dX12_mark_33 : decode cX12_mark 33 = .ok (.iconst 0, 1) := by decide +kernel
theorem dX12_mark_34 : decode cX12_mark 34 = .ok (.sipush 999, 3) := by decide +kernel
theorem dX12_mark_37 : decode cX12_mark 37 = .ok (.invokestatic 117, 3) := by decide +kernel
theorem dX12_mark_40 : decode cX12_mark 40 = .ok (.ifCond .ne 6, 3) := by decide +kernel
theorem dX12_mark_43 : decode cX12_mark 43 = .ok (.bipush (-2), 2) := by decide +kernel
theorem dX12_mark_45 : decode cX12_mark 45 = .ok (.ireturn, 1) := by decide +kernel
theorem dX12_mark_46 : decode cX12_mark 46 = .ok (.aload_n 0, 1) := by decide +kernel
theorem dX12_mark_47 : decode cX12_mark 47 = .ok (.getfield 291, 3) := by decide +kernel
theorem dX12_mark_50 : decode cX12_mark 50 = .ok (.iconst 5, 1) := by decide +kernel
theorem dX12_mark_51 : decode cX12_mark 51 = .ok (.if_icmp .ne 6, 3) := by decide +kernel
theorem dX12_mark_54 : decode cX12_mark 54 = .ok (.bipush (-4), 2) := by decide +kernel
theorem dX12_mark_56 : decode cX12_mark 56 = .ok (.ireturn, 1) := by decide +kernel
theorem dX12_mark_57 : decode cX12_mark 57 = .ok (.aload_n 0, 1) := by decide +kernel
theorem dX12_mark_58 : decode cX12_mark 58 = .ok (.getfield 64, 3) := by decide +kernel
theorem dX12_mark_61 : decode cX12_mark 61 = .ok (.aload_n 0, 1) := by decide +kernel
theorem dX12_mark_62 : decode cX12_mark 62 = .ok (.getfield 291, 3) := by decide +kernel
theorem dX12_mark_65 : decode cX12_mark 65 = .ok (.iload_n 1, 1) := by decide +kernel
theorem dX12_mark_66 : decode cX12_mark 66 = .ok (.iastore, 1) := by decide +kernel
theorem dX12_mark_67 : decode cX12_mark 67 = .ok (.aload_n 0, 1) := by decide +kernel
theorem dX12_mark_68 : decode cX12_mark 68 = .ok (.getfield 67, 3) := by decide +kernel
theorem dX12_mark_71 : decode cX12_mark 71 = .ok (.aload_n 0, 1) := by decide +kernel
theorem dX12_mark_72 : decode cX12_mark 72 = .ok (.getfield 291, 3) := by decide +kernel
theorem dX12_mark_75 : decode cX12_mark 75 = .ok (.iload_n 2, 1) := by decide +kernel
theorem dX12_mark_76 : decode cX12_mark 76 = .ok (.iastore, 1) := by decide +kernel
theorem dX12_mark_77 : decode cX12_mark 77 = .ok (.aload_n 0, 1) := by decide +kernel
theorem dX12_mark_78 : decode cX12_mark 78 = .ok (.getfield 70, 3) := by decide +kernel
theorem dX12_mark_81 : decode cX12_mark 81 = .ok (.aload_n 0, 1) := by decide +kernel
theorem dX12_mark_82 : decode cX12_mark 82 = .ok (.dup, 1) := by decide +kernel
theorem dX12_mark_83 : decode cX12_mark 83 = .ok (.getfield 291, 3) := by decide +kernel
theorem dX12_mark_86 : decode cX12_mark 86 = .ok (.dup_x1, 1) := by decide +kernel
theorem dX12_mark_87 : decode cX12_mark 87 = .ok (.iconst 1, 1) := by decide +kernel
theorem dX12_mark_88 : decode cX12_mark 88 = .ok (.iadd, 1) := by decide +kernel
theorem dX12_mark_89 : decode cX12_mark 89 = .ok (.putfield 291, 3) := by decide +kernel
theorem dX12_mark_92 : decode cX12_mark 92 = .ok (.iload_n 3, 1) := by decide +kernel
theorem dX12_mark_93 : decode cX12_mark 93 = .ok (.iastore, 1) := by decide +kernel
theorem dX12_mark_94 : decode cX12_mark 94 = .ok (.aload_n 0, 1) := by decide +kernel
theorem dX12_mark_95 : decode cX12_mark 95 = .ok (.getfield 291, 3) := by decide +kernel
theorem dX12_mark_98 : decode cX12_mark 98 = .ok (.ireturn, 1) := by decide +kernel
theorem dX12_isMarked_0 : decode cX12_isMarked 0 = .ok (.aload_n 0, 1) := by decide +kernel
theorem dX12_isMarked_1 : decode cX12_isMarked 1 = .ok (.aload_n 0, 1) := by decide +kernel
theorem dX12_isMarked_2 : decode cX12_isMarked 2 = .ok (.getfield 91, 3) := by decide +kernel
theorem dX12_isMarked_5 : decode cX12_isMarked 5 = .ok (.invokevirtual 271, 3) := by decide +kernel
theorem dX12_isMarked_8 : decode cX12_isMarked 8 = .ok (.iconst 0, 1) := by decide +kernel
theorem dX12_isMarked_9 : decode cX12_isMarked 9 = .ok (.istore_n 2, 1) := by decide +kernel
theorem dX12_isMarked_10 : decode cX12_isMarked 10 = .ok (.iload_n 2, 1) := by decide +kernel
theorem dX12_isMarked_11 : decode cX12_isMarked 11 = .ok (.aload_n 0, 1) := by decide +kernel
theorem dX12_isMarked_12 : decode cX12_isMarked 12 = .ok (.getfield 67, 3) := by decide +kernel
theorem dX12_isMarked_15 : decode cX12_isMarked 15 = .ok (.iload_n 1, 1) := by decide +kernel
theorem dX12_isMarked_16 : decode cX12_isMarked 16 = .ok (.iaload, 1) := by decide +kernel
theorem dX12_isMarked_17 : decode cX12_isMarked 17 = .ok (.if_icmp .ge 13, 3) := by decide +kernel
theorem dX12_isMarked_20 : decode cX12_isMarked 20 = .ok (.aload_n 0, 1) := by decide +kernel
theorem dX12_isMarked_21 : decode cX12_isMarked 21 = .ok (.invokevirtual 268, 3) := by decide +kernel
theorem dX12_isMarked_24 : decode cX12_isMarked 24 = .ok (.iinc 2 1, 3) := by decide +kernel
theorem dX12_isMarked_27 : decode cX12_isMarked 27 = .ok (.goto (-17), 3) := by decide +kernel
theorem dX12_isMarked_30 : decode cX12_isMarked 30 = .ok (.iconst 0, 1) := by decide +kernel
theorem dX12_isMarked_31 : decode cX12_isMarked 31 = .ok (.aload_n 0, 1) := by decide +kernel
theorem dX12_isMarked_32 : decode cX12_isMarked 32 = .ok (.aload_n 0, 1) := by decide +kernel
theorem dX12_isMarked_33 : decode cX12_isMarked 33 = .ok (.getfield 64, 3) := by decide +kernel
theorem dX12_isMarked_36 : decode cX12_isMarked 36 = .ok (.iload_n 1, 1) := by decide +kernel
theorem dX12_isMarked_37 : decode cX12_isMarked 37 = .ok (.iaload, 1) := by decide +kernel
theorem dX12_isMarked_38 : decode cX12_isMarked 38 = .ok (.invokevirtual 128, 3) := by decide +kernel
theorem dX12_isMarked_41 : decode cX12_isMarked 41 = .ok (.invokestatic 245, 3) := by decide +kernel
theorem dX12_isMarked_44 : decode cX12_isMarked 44 = .ok (.aload_n 0, 1) := by decide +kernel
theorem dX12_isMarked_45 : decode cX12_isMarked 45 = .ok (.getfield 70, 3) := by decide +kernel
theorem dX12_isMarked_48 : decode cX12_isMarked 48 = .ok (.iload_n 1, 1) := by decide +kernel
theorem dX12_isMarked_49 : decode cX12_isMarked 49 = .ok (.iaload, 1) := by decide +kernel
theorem dX12_isMarked_50 : decode cX12_isMarked 50 = .ok (.if_icmp .ne 7, 3) := by decide +kernel
theorem dX12_isMarked_53 : decode cX12_isMarked 53 = .ok (.iconst 1, 1) := by decide +kernel
theorem dX12_isMarked_54 : decode cX12_isMarked 54 = .ok (.goto 4, 3) := by decide +kernel
theorem dX12_isMarked_57 : decode cX12_isMarked 57 = .ok (.iconst 0, 1) := by decide +kernel
theorem dX12_isMarked_58 : decode cX12_isMarked 58 = .ok (.istore_n 2, 1) := by decide +kernel
theorem dX12_isMarked_59 : decode cX12_isMarked 59 = .ok (.aload_n 0, 1) := by decide +kernel
theorem dX12_isMarked_60 : decode cX12_isMarked 60 = .ok (.aload_n 0, 1) := by decide +kernel
theorem dX12_isMarked_61 : decode cX12_isMarked 61 = .ok (.getfield 91, 3) := by decide +kernel
theorem dX12_isMarked_64 : decode cX12_isMarked 64 = .ok (.invokevirtual 275, 3) := by decide +kernel
theorem dX12_isMarked_67 : decode cX12_isMarked 67 = .ok (.iload_n 2, 1) := by decide +kernel
theorem dX12_isMarked_68 : decode cX12_isMarked 68 = .ok (.ireturn, 1) := by decide +kernel
theorem dX12_areMarked_0 : decode cX12_areMarked 0 = .ok (.iconst 0, 1) := by decide +kernel
theorem dX12_areMarked_1 : decode cX12_areMarked 1 = .ok (.istore_n 2, 1) := by decide +kernel
theorem dX12_areMarked_2 : decode cX12_areMarked 2 = .ok (.iload_n 2, 1) := by decide +kernel
theorem dX12_areMarked_3 : decode cX12_areMarked 3 = .ok (.aload_n 0, 1) := by decide +kernel
theorem dX12_areMarked_4 : decode cX12_areMarked 4 = .ok (.getfield 291, 3) := by decide +kernel
theorem dX12_areMarked_7 : decode cX12_areMarked 7 = .ok (.if_icmp .ge 29, 3) := by decide +kernel
theorem dX12_areMarked_10 : decode cX12_areMarked 10 = .ok (.aload_n 0, 1) := by decide +kernel
theorem dX12_areMarked_11 : decode cX12_areMarked 11 = .ok (.getfield 64, 3) := by decide +kernel
theorem dX12_areMarked_14 : decode cX12_areMarked 14 = .ok (.iload_n 2, 1) := by decide +kernel
theorem dX12_areMarked_15 : decode cX12_areMarked 15 = .ok (.iaload, 1) := by decide +kernel
theorem dX12_areMarked_16 : decode cX12_areMarked 16 = .ok (.iload_n 1, 1) := by decide +kernel
theorem dX12_areMarked_17 : decode cX12_areMarked 17 = .ok (.if_icmp .ne 13, 3) := by decide +kernel
theorem dX12_areMarked_20 : decode cX12_areMarked 20 = .ok (.aload_n 0, 1) := by decide +kernel
theorem dX12_areMarked_21 : decode cX12_areMarked 21 = .ok (.iload_n 2, 1) := by decide +kernel
theorem dX12_areMarked_22 : decode cX12_areMarked 22 = .ok (.invokevirtual 294, 3) := by decide +kernel
theorem dX12_areMarked_25 : decode cX12_areMarked 25 = .ok (.ifCond .ne 5, 3) := by decide +kernel
theorem dX12_areMarked_28 : decode cX12_areMarked 28 = .ok (.iconst 0, 1) := by decide +kernel
theorem dX12_areMarked_29 : decode cX12_areMarked 29 = .ok (.ireturn, 1) := by decide +kernel
theorem dX12_areMarked_30 : decode cX12_areMarked 30 = .ok (.iinc 2 1, 3) := by decide +kernel
theorem dX12_areMarked_33 : decode cX12_areMarked 33 = .ok (.goto (-31), 3) := by decide +kernel
theorem dX12_areMarked_36 : decode cX12_areMarked 36 = .ok (.iconst 1, 1) := by decide +kernel
theorem dX12_areMarked_37 : decode cX12_areMarked 37 = .ok (.ireturn, 1) := by decide +kernel
theorem dX12_sizes_0 : decode cX12_sizes 0 = .ok (.aload_n 0, 1) := by decide +kernel
theorem dX12_sizes_1 : decode cX12_sizes 1 = .ok (.getfield 24, 3) := by decide +kernel
theorem dX12_sizes_4 : decode cX12_sizes 4 = .ok (.iload_n 1, 1) := by decide +kernel
theorem dX12_sizes_5 : decode cX12_sizes 5 = .ok (.iaload, 1) := by decide +kernel
theorem dX12_sizes_6 : decode cX12_sizes 6 = .ok (.istore_n 2, 1) := by decide +kernel
theorem dX12_sizes_7 : decode cX12_sizes 7 = .ok (.iconst 0, 1) := by decide +kernel
theorem dX12_sizes_8 : decode cX12_sizes 8 = .ok (.istore_n 3, 1) := by decide +kernel
theorem dX12_sizes_9 : decode cX12_sizes 9 = .ok (.iconst 0, 1) := by decide +kernel
theorem dX12_sizes_10 : decode cX12_sizes 10 = .ok (.istore 4, 2) := by decide +kernel
theorem dX12_sizes_12 : decode cX12_sizes 12 = .ok (.iload 4, 2) := by decide +kernel
theorem dX12_sizes_14 : decode cX12_sizes 14 = .ok (.bipush 21, 2) := by decide +kernel
theorem dX12_sizes_16 : decode cX12_sizes 16 = .ok (.if_icmp .ge 32, 3) := by decide +kernel
theorem dX12_sizes_19 : decode cX12_sizes 19 = .ok (.aload_n 0, 1) := by decide +kernel
theorem dX12_sizes_20 : decode cX12_sizes 20 = .ok (.getfield 24, 3) := by decide +kernel
theorem dX12_sizes_23 : decode cX12_sizes 23 = .ok (.iload_n 1, 1) := by decide +kernel
theorem dX12_sizes_24 : decode cX12_sizes 24 = .ok (.iload 4, 2) := by decide +kernel
theorem dX12_sizes_26 : decode cX12_sizes 26 = .ok (.iastore, 1) := by decide +kernel
theorem dX12_sizes_27 : decode cX12_sizes 27 = .ok (.aload_n 0, 1) := by decide +kernel
theorem dX12_sizes_28 : decode cX12_sizes 28 = .ok (.iload_n 1, 1) := by decide +kernel
theorem dX12_sizes_29 : decode cX12_sizes 29 = .ok (.invokevirtual 297, 3) := by decide +kernel
theorem dX12_sizes_32 : decode cX12_sizes 32 = .ok (.ifCond .eq 10, 3) := by decide +kernel
theorem dX12_sizes_35 : decode cX12_sizes 35 = .ok (.iload_n 3, 1) := by decide +kernel
theorem dX12_sizes_36 : decode cX12_sizes 36 = .ok (.iconst 1, 1) := by decide +kernel
theorem dX12_sizes_37 : decode cX12_sizes 37 = .ok (.iload 4, 2) := by decide +kernel
theorem dX12_sizes_39 : decode cX12_sizes 39 = .ok (.ishl, 1) := by decide +kernel
theorem dX12_sizes_40 : decode cX12_sizes 40 = .ok (.ior, 1) := by decide +kernel
theorem dX12_sizes_41 : decode cX12_sizes 41 = .ok (.istore_n 3, 1) := by decide +kernel
theorem dX12_sizes_42 : decode cX12_sizes 42 = .ok (.iinc 4 1, 3) := by decide +kernel
theorem dX12_sizes_45 : decode cX12_sizes 45 = .ok (.goto (-33), 3) := by decide +kernel
theorem dX12_sizes_48 : decode cX12_sizes 48 = .ok (.aload_n 0, 1) := by decide +kernel
theorem dX12_sizes_49 : decode cX12_sizes 49 = .ok (.getfield 24, 3) := by decide +kernel
theorem dX12_sizes_52 : decode cX12_sizes 52 = .ok (.iload_n 1, 1) := by decide +kernel
theorem dX12_sizes_53 : decode cX12_sizes 53 = .ok (.iload_n 2, 1) := by decide +kernel
theorem dX12_sizes_54 : decode cX12_sizes 54 = .ok (.iastore, 1) := by decide +kernel
theorem dX12_sizes_55 : decode cX12_sizes 55 = .ok (.iload_n 3, 1) := by decide +kernel
theorem dX12_sizes_56 : decode cX12_sizes 56 = .ok (.ireturn, 1) := by decide +kernel
theorem dX12_wrong_0 : decode cX12_wrong 0 = .ok (.iconst 0, 1) := by decide +kernel
theorem dX12_wrong_1 : decode cX12_wrong 1 = .ok (.istore_n 1, 1) := by decide +kernel
theorem dX12_wrong_2 : decode cX12_wrong 2 = .ok (.iload_n 1, 1) := by decide +kernel
theorem dX12_wrong_3 : decode cX12_wrong 3 = .ok (.aload_n 0, 1) := by decide +kernel
theorem dX12_wrong_4 : decode cX12_wrong 4 = .ok (.getfield 291, 3) := by decide +kernel
theorem dX12_wrong_7 : decode cX12_wrong 7 = .ok (.if_icmp .ge 19, 3) := by decide +kernel
theorem dX12_wrong_10 : decode cX12_wrong 10 = .ok (.aload_n 0, 1) := by decide +kernel
theorem dX12_wrong_11 : decode cX12_wrong 11 = .ok (.iload_n 1, 1) := by decide +kernel
theorem dX12_wrong_12 : decode cX12_wrong 12 = .ok (.invokevirtual 294, 3) := by decide +kernel
theorem dX12_wrong_15 : decode cX12_wrong 15 = .ok (.ifCond .ne 5, 3) := by decide +kernel
theorem dX12_wrong_18 : decode cX12_wrong 18 = .ok (.iload_n 1, 1) := by decide +kernel
theorem dX12_wrong_19 : decode cX12_wrong 19 = .ok (.ireturn, 1) := by decide +kernel
theorem dX12_wrong_20 : decode cX12_wrong 20 = .ok (.iinc 1 1, 3) := by decide +kernel
theorem dX12_wrong_23 : decode cX12_wrong 23 = .ok (.goto (-21), 3) := by decide +kernel
theorem dX12_wrong_26 : decode cX12_wrong 26 = .ok (.bipush (-5), 2) := by decide +kernel
theorem dX12_wrong_28 : decode cX12_wrong 28 = .ok (.ireturn, 1) := by decide +kernel
theorem dX12_can_0 : decode cX12_can 0 = .ok (.aload_n 0, 1) := by decide +kernel
theorem dX12_can_1 : decode cX12_can 1 = .ok (.iload_n 1, 1) := by decide +kernel
theorem dX12_can_2 : decode cX12_can 2 = .ok (.invokevirtual 125, 3) := by decide +kernel
theorem dX12_can_5 : decode cX12_can 5 = .ok (.ifCond .eq 12, 3) := by decide +kernel
theorem dX12_can_8 : decode cX12_can 8 = .ok (.iload_n 2, 1) := by decide +kernel
theorem dX12_can_9 : decode cX12_can 9 = .ok (.iconst 0, 1) := by decide +kernel
theorem dX12_can_10 : decode cX12_can 10 = .ok (.iconst 1, 1) := by decide +kernel
theorem dX12_can_11 : decode cX12_can 11 = .ok (.invokestatic 117, 3) := by decide +kernel
theorem dX12_can_14 : decode cX12_can 14 = .ok (.ifCond .ne 5, 3) := by decide +kernel
theorem dX12_can_17 : decode cX12_can 17 = .ok (.iconst (-1), 1) := by decide +kernel
theorem dX12_can_18 : decode cX12_can 18 = .ok (.ireturn, 1) := by decide +kernel
theorem dX12_can_19 : decode cX12_can 19 = .ok (.aload_n 0, 1) := by decide +kernel
theorem dX12_can_20 : decode cX12_can 20 = .ok (.getfield 21, 3) := by decide +kernel
theorem dX12_can_23 : decode cX12_can 23 = .ok (.iload_n 1, 1) := by decide +kernel
theorem dX12_can_24 : decode cX12_can 24 = .ok (.iaload, 1) := by decide +kernel
theorem dX12_can_25 : decode cX12_can 25 = .ok (.istore_n 3, 1) := by decide +kernel
theorem dX12_can_26 : decode cX12_can 26 = .ok (.iconst 0, 1) := by decide +kernel
theorem dX12_can_27 : decode cX12_can 27 = .ok (.istore 4, 2) := by decide +kernel
theorem dX12_can_29 : decode cX12_can 29 = .ok (.bipush (-5), 2) := by decide +kernel
theorem dX12_can_31 : decode cX12_can 31 = .ok (.istore 5, 2) := by decide +kernel
theorem dX12_can_33 : decode cX12_can 33 = .ok (.bipush 9, 2) := by decide +kernel
theorem dX12_can_35 : decode cX12_can 35 = .ok (.istore 6, 2) := by decide +kernel
theorem dX12_can_37 : decode cX12_can 37 = .ok (.iload 6, 2) := by decide +kernel
theorem dX12_can_39 : decode cX12_can 39 = .ok (.ifCond .lt 35, 3) := by decide +kernel
theorem dX12_can_42 : decode cX12_can 42 = .ok (.aload_n 0, 1) := by decide +kernel
theorem dX12_can_43 : decode cX12_can 43 = .ok (.getfield 21, 3) := by decide +kernel
theorem dX12_can_46 : decode cX12_can 46 = .ok (.iload_n 1, 1) := by decide +kernel
theorem dX12_can_47 : decode cX12_can 47 = .ok (.iload 6, 2) := by decide +kernel
theorem dX12_can_49 : decode cX12_can 49 = .ok (.iastore, 1) := by decide +kernel
theorem dX12_can_50 : decode cX12_can 50 = .ok (.aload_n 0, 1) := by decide +kernel
theorem dX12_can_51 : decode cX12_can 51 = .ok (.iload_n 1, 1) := by decide +kernel
theorem dX12_can_52 : decode cX12_can 52 = .ok (.invokevirtual 297, 3) := by decide +kernel
theorem dX12_can_55 : decode cX12_can 55 = .ok (.ifCond .ne 6, 3) := by decide +kernel
theorem dX12_can_58 : decode cX12_can 58 = .ok (.goto 10, 3) := by decide +kernel
theorem dX12_can_61 : decode cX12_can 61 = .ok (.iinc 4 1, 3) := by decide +kernel
theorem dX12_can_64 : decode cX12_can 64 = .ok (.iload 6, 2) := by decide +kernel
theorem dX12_can_66 : decode cX12_can 66 = .ok (.istore 5, 2) := by decide +kernel
theorem dX12_can_68 : decode cX12_can 68 = .ok (.iinc 6 (-1), 3) := by decide +kernel
theorem dX12_can_71 : decode cX12_can 71 = .ok (.goto (-34), 3) := by decide +kernel
theorem dX12_can_74 : decode cX12_can 74 = .ok (.aload_n 0, 1) := by decide +kernel
theorem dX12_can_75 : decode cX12_can 75 = .ok (.getfield 21, 3) := by decide +kernel
theorem dX12_can_78 : decode cX12_can 78 = .ok (.iload_n 1, 1) := by decide +kernel
theorem dX12_can_79 : decode cX12_can 79 = .ok (.iload_n 3, 1) := by decide +kernel
theorem dX12_can_80 : decode cX12_can 80 = .ok (.iastore, 1) := by decide +kernel
theorem dX12_can_81 : decode cX12_can 81 = .ok (.iload_n 2, 1) := by decide +kernel
theorem dX12_can_82 : decode cX12_can 82 = .ok (.ifCond .ne 8, 3) := by decide +kernel
theorem dX12_can_85 : decode cX12_can 85 = .ok (.iload 4, 2) := by decide +kernel
theorem dX12_can_87 : decode cX12_can 87 = .ok (.goto 5, 3) := by decide +kernel
theorem dX12_can_90 : decode cX12_can 90 = .ok (.iload 5, 2) := by decide +kernel
theorem dX12_can_92 : decode cX12_can 92 = .ok (.ireturn, 1) := by decide +kernel
theorem dX12_part_0 : decode cX12_part 0 = .ok (.lload_n 0, 1) := by decide +kernel
theorem dX12_part_1 : decode cX12_part 1 = .ok (.lstore 5, 2) := by decide +kernel
theorem dX12_part_3 : decode cX12_part 3 = .ok (.lload_n 2, 1) := by decide +kernel
theorem dX12_part_4 : decode cX12_part 4 = .ok (.lstore 7, 2) := by decide +kernel
theorem dX12_part_6 : decode cX12_part 6 = .ok (.lload 7, 2) := by decide +kernel
theorem dX12_part_8 : decode cX12_part 8 = .ok (.lconst 0, 1) := by decide +kernel
theorem dX12_part_9 : decode cX12_part 9 = .ok (.lcmp, 1) := by decide +kernel
theorem dX12_part_10 : decode cX12_part 10 = .ok (.ifCond .eq 21, 3) := by decide +kernel
theorem dX12_part_13 : decode cX12_part 13 = .ok (.lload 5, 2) := by decide +kernel
theorem dX12_part_15 : decode cX12_part 15 = .ok (.lload 7, 2) := by decide +kernel
theorem dX12_part_17 : decode cX12_part 17 = .ok (.lrem, 1) := by decide +kernel
theorem dX12_part_18 : decode cX12_part 18 = .ok (.lstore 9, 2) := by decide +kernel
theorem dX12_part_20 : decode cX12_part 20 = .ok (.lload 7, 2) := by decide +kernel
theorem dX12_part_22 : decode cX12_part 22 = .ok (.lstore 5, 2) := by decide +kernel
theorem dX12_part_24 : decode cX12_part 24 = .ok (.lload 9, 2) := by decide +kernel
theorem dX12_part_26 : decode cX12_part 26 = .ok (.lstore 7, 2) := by decide +kernel
theorem dX12_part_28 : decode cX12_part 28 = .ok (.goto (-22), 3) := by decide +kernel
theorem dX12_part_31 : decode cX12_part 31 = .ok (.iload 4, 2) := by decide +kernel
theorem dX12_part_33 : decode cX12_part 33 = .ok (.ifCond .ne 10, 3) := by decide +kernel
theorem dX12_part_36 : decode cX12_part 36 = .ok (.lload_n 0, 1) := by decide +kernel
theorem dX12_part_37 : decode cX12_part 37 = .ok (.lload 5, 2) := by decide +kernel
theorem dX12_part_39 : decode cX12_part 39 = .ok (.ldiv, 1) := by decide +kernel
theorem dX12_part_40 : decode cX12_part 40 = .ok (.goto 7, 3) := by decide +kernel
theorem dX12_part_43 : decode cX12_part 43 = .ok (.lload_n 2, 1) := by decide +kernel
theorem dX12_part_44 : decode cX12_part 44 = .ok (.lload 5, 2) := by decide +kernel
theorem dX12_part_46 : decode cX12_part 46 = .ok (.ldiv, 1) := by decide +kernel
theorem dX12_part_47 : decode cX12_part 47 = .ok (.lreturn, 1) := by decide +kernel
theorem dX12_odds_0 : decode cX12_odds 0 = .ok (.aload_n 0, 1) := by decide +kernel
theorem dX12_odds_1 : decode cX12_odds 1 = .ok (.iload_n 1, 1) := by decide +kernel
theorem dX12_odds_2 : decode cX12_odds 2 = .ok (.invokevirtual 125, 3) := by decide +kernel
theorem dX12_odds_5 : decode cX12_odds 5 = .ok (.ifCond .eq 12, 3) := by decide +kernel
theorem dX12_odds_8 : decode cX12_odds 8 = .ok (.iload_n 2, 1) := by decide +kernel
theorem dX12_odds_9 : decode cX12_odds 9 = .ok (.iconst 0, 1) := by decide +kernel
theorem dX12_odds_10 : decode cX12_odds 10 = .ok (.iconst 1, 1) := by decide +kernel
theorem dX12_odds_11 : decode cX12_odds 11 = .ok (.invokestatic 117, 3) := by decide +kernel
theorem dX12_odds_14 : decode cX12_odds 14 = .ok (.ifCond .ne 7, 3) := by decide +kernel
theorem dX12_odds_17 : decode cX12_odds 17 = .ok (.ldc2_w 300, 3) := by decide +kernel
theorem dX12_odds_20 : decode cX12_odds 20 = .ok (.lreturn, 1) := by decide +kernel
theorem dX12_odds_21 : decode cX12_odds 21 = .ok (.iconst 0, 1) := by decide +kernel
theorem dX12_odds_22 : decode cX12_odds 22 = .ok (.istore_n 3, 1) := by decide +kernel
theorem dX12_odds_23 : decode cX12_odds 23 = .ok (.iconst 0, 1) := by decide +kernel
theorem dX12_odds_24 : decode cX12_odds 24 = .ok (.istore 4, 2) := by decide +kernel
theorem dX12_odds_26 : decode cX12_odds 26 = .ok (.iload 4, 2) := by decide +kernel
theorem dX12_odds_28 : decode cX12_odds 28 = .ok (.bipush 10, 2) := by decide +kernel
theorem dX12_odds_30 : decode cX12_odds 30 = .ok (.if_icmp .ge 53, 3) := by decide +kernel
theorem dX12_odds_33 : decode cX12_odds 33 = .ok (.aload_n 0, 1) := by decide +kernel
theorem dX12_odds_34 : decode cX12_odds 34 = .ok (.aload_n 0, 1) := by decide +kernel
theorem dX12_odds_35 : decode cX12_odds 35 = .ok (.getfield 91, 3) := by decide +kernel
theorem dX12_odds_38 : decode cX12_odds 38 = .ok (.invokevirtual 271, 3) := by decide +kernel
theorem dX12_odds_41 : decode cX12_odds 41 = .ok (.aload_n 0, 1) := by decide +kernel
theorem dX12_odds_42 : decode cX12_odds 42 = .ok (.getfield 15, 3) := by decide +kernel
theorem dX12_odds_45 : decode cX12_odds 45 = .ok (.aload_n 0, 1) := by decide +kernel
theorem dX12_odds_46 : decode cX12_odds 46 = .ok (.getfield 224, 3) := by decide +kernel
theorem dX12_odds_49 : decode cX12_odds 49 = .ok (.iconst 4, 1) := by decide +kernel
theorem dX12_odds_50 : decode cX12_odds 50 = .ok (.irem, 1) := by decide +kernel
theorem dX12_odds_51 : decode cX12_odds 51 = .ok (.iload 4, 2) := by decide +kernel
theorem dX12_odds_53 : decode cX12_odds 53 = .ok (.iastore, 1) := by decide +kernel
theorem dX12_odds_54 : decode cX12_odds 54 = .ok (.aload_n 0, 1) := by decide +kernel
theorem dX12_odds_55 : decode cX12_odds 55 = .ok (.invokevirtual 268, 3) := by decide +kernel
theorem dX12_odds_58 : decode cX12_odds 58 = .ok (.aload_n 0, 1) := by decide +kernel
theorem dX12_odds_59 : decode cX12_odds 59 = .ok (.iload_n 1, 1) := by decide +kernel
theorem dX12_odds_60 : decode cX12_odds 60 = .ok (.invokevirtual 128, 3) := by decide +kernel
theorem dX12_odds_63 : decode cX12_odds 63 = .ok (.ifCond .le 6, 3) := by decide +kernel
theorem dX12_odds_66 : decode cX12_odds 66 = .ok (.iinc 3 1, 3) := by decide +kernel
theorem dX12_odds_69 : decode cX12_odds 69 = .ok (.aload_n 0, 1) := by decide +kernel
theorem dX12_odds_70 : decode cX12_odds 70 = .ok (.aload_n 0, 1) := by decide +kernel
theorem dX12_odds_71 : decode cX12_odds 71 = .ok (.getfield 91, 3) := by decide +kernel
theorem dX12_odds_74 : decode cX12_odds 74 = .ok (.invokevirtual 275, 3) := by decide +kernel
theorem dX12_odds_77 : decode cX12_odds 77 = .ok (.iinc 4 1, 3) := by decide +kernel
theorem dX12_odds_80 : decode cX12_odds 80 = .ok (.goto (-54), 3) := by decide +kernel
theorem dX12_odds_83 : decode cX12_odds 83 = .ok (.iload_n 3, 1) := by decide +kernel
theorem dX12_odds_84 : decode cX12_odds 84 = .ok (.i2l, 1) := by decide +kernel
theorem dX12_odds_85 : decode cX12_odds 85 = .ok (.ldc2_w 302, 3) := by decide +kernel
theorem dX12_odds_88 : decode cX12_odds 88 = .ok (.iload_n 2, 1) := by decide +kernel
theorem dX12_odds_89 : decode cX12_odds 89 = .ok (.invokestatic 304, 3) := by decide +kernel
theorem dX12_odds_92 : decode cX12_odds 92 = .ok (.lreturn, 1) := by decide +kernel
theorem dX12_mean_0 : decode cX12_mean 0 = .ok (.iconst 4, 1) := by decide +kernel
theorem dX12_mean_1 : decode cX12_mean 1 = .ok (.aload_n 0, 1) := by decide +kernel
theorem dX12_mean_2 : decode cX12_mean 2 = .ok (.invokevirtual 262, 3) := by decide +kernel
theorem dX12_mean_5 : decode cX12_mean 5 = .ok (.invokestatic 240, 3) := by decide +kernel
theorem dX12_mean_8 : decode cX12_mean 8 = .ok (.isub, 1) := by decide +kernel
theorem dX12_mean_9 : decode cX12_mean 9 = .ok (.istore_n 2, 1) := by decide +kernel
theorem dX12_mean_10 : decode cX12_mean 10 = .ok (.iload_n 1, 1) := by decide +kernel
theorem dX12_mean_11 : decode cX12_mean 11 = .ok (.iconst 0, 1) := by decide +kernel
theorem dX12_mean_12 : decode cX12_mean 12 = .ok (.iconst 1, 1) := by decide +kernel
theorem dX12_mean_13 : decode cX12_mean 13 = .ok (.invokestatic 117, 3) := by decide +kernel
theorem dX12_mean_16 : decode cX12_mean 16 = .ok (.ifCond .eq 7, 3) := by decide +kernel
theorem dX12_mean_19 : decode cX12_mean 19 = .ok (.iload_n 2, 1) := by decide +kernel
theorem dX12_mean_20 : decode cX12_mean 20 = .ok (.ifCond .ne 9, 3) := by decide +kernel
theorem dX12_mean_23 : decode cX12_mean 23 = .ok (.ldc2_w 300, 3) := by decide +kernel
theorem dX12_mean_26 : decode cX12_mean 26 = .ok (.goto 14, 3) := by decide +kernel
theorem dX12_mean_29 : decode cX12_mean 29 = .ok (.aload_n 0, 1) := by decide +kernel
theorem dX12_mean_30 : decode cX12_mean 30 = .ok (.invokevirtual 265, 3) := by decide +kernel
theorem dX12_mean_33 : decode cX12_mean 33 = .ok (.i2l, 1) := by decide +kernel
theorem dX12_mean_34 : decode cX12_mean 34 = .ok (.iload_n 2, 1) := by decide +kernel
theorem dX12_mean_35 : decode cX12_mean 35 = .ok (.i2l, 1) := by decide +kernel
theorem dX12_mean_36 : decode cX12_mean 36 = .ok (.iload_n 1, 1) := by decide +kernel
theorem dX12_mean_37 : decode cX12_mean 37 = .ok (.invokestatic 304, 3) := by decide +kernel
theorem dX12_mean_40 : decode cX12_mean 40 = .ok (.lreturn, 1) := by decide +kernel
theorem dX12_plan_0 : decode cX12_plan 0 = .ok (.iload_n 1, 1) := by decide +kernel
theorem dX12_plan_1 : decode cX12_plan 1 = .ok (.iconst (-1), 1) := by decide +kernel
theorem dX12_plan_2 : decode cX12_plan 2 = .ok (.if_icmp .ne 10, 3) := by decide +kernel
theorem dX12_plan_5 : decode cX12_plan 5 = .ok (.aload_n 0, 1) := by decide +kernel
theorem dX12_plan_6 : decode cX12_plan 6 = .ok (.iconst 0, 1) := by decide +kernel
theorem dX12_plan_7 : decode cX12_plan 7 = .ok (.putfield 308, 3) := by decide +kernel
theorem dX12_plan_10 : decode cX12_plan 10 = .ok (.iconst 0, 1) := by decide +kernel
theorem dX12_plan_11 : decode cX12_plan 11 = .ok (.ireturn, 1) := by decide +kernel
theorem dX12_plan_12 : decode cX12_plan 12 = .ok (.iload_n 1, 1) := by decide +kernel
theorem dX12_plan_13 : decode cX12_plan 13 = .ok (.iconst 0, 1) := by decide +kernel
theorem dX12_plan_14 : decode cX12_plan 14 = .ok (.iconst 3, 1) := by decide +kernel
theorem dX12_plan_15 : decode cX12_plan 15 = .ok (.invokestatic 117, 3) := by decide +kernel
theorem dX12_plan_18 : decode cX12_plan 18 = .ok (.ifCond .eq 15, 3) := by decide +kernel
theorem dX12_plan_21 : decode cX12_plan 21 = .ok (.iload_n 1, 1) := by decide +kernel
theorem dX12_plan_22 : decode cX12_plan 22 = .ok (.ifCond .le 13, 3) := by decide +kernel
theorem dX12_plan_25 : decode cX12_plan 25 = .ok (.aload_n 0, 1) := by decide +kernel
theorem dX12_plan_26 : decode cX12_plan 26 = .ok (.iload_n 2, 1) := by decide +kernel
theorem dX12_plan_27 : decode cX12_plan 27 = .ok (.invokevirtual 125, 3) := by decide +kernel
theorem dX12_plan_30 : decode cX12_plan 30 = .ok (.ifCond .ne 5, 3) := by decide +kernel
theorem dX12_plan_33 : decode cX12_plan 33 = .ok (.iconst (-1), 1) := by decide +kernel
theorem dX12_plan_34 : decode cX12_plan 34 = .ok (.ireturn, 1) := by decide +kernel
theorem dX12_plan_35 : decode cX12_plan 35 = .ok (.aload_n 0, 1) := by decide +kernel
theorem dX12_plan_36 : decode cX12_plan 36 = .ok (.getfield 308, 3) := by decide +kernel
theorem dX12_plan_39 : decode cX12_plan 39 = .ok (.bipush 10, 2) := by decide +kernel
theorem dX12_plan_41 : decode cX12_plan 41 = .ok (.if_icmp .ne 6, 3) := by decide +kernel
theorem dX12_plan_44 : decode cX12_plan 44 = .ok (.bipush (-4), 2) := by decide +kernel
theorem dX12_plan_46 : decode cX12_plan 46 = .ok (.ireturn, 1) := by decide +kernel
theorem dX12_plan_47 : decode cX12_plan 47 = .ok (.aload_n 0, 1) := by decide +kernel
theorem dX12_plan_48 : decode cX12_plan 48 = .ok (.getfield 73, 3) := by decide +kernel
theorem dX12_plan_51 : decode cX12_plan 51 = .ok (.aload_n 0, 1) := by decide +kernel
theorem dX12_plan_52 : decode cX12_plan 52 = .ok (.getfield 308, 3) := by decide +kernel
theorem dX12_plan_55 : decode cX12_plan 55 = .ok (.iload_n 1, 1) := by decide +kernel
theorem dX12_plan_56 : decode cX12_plan 56 = .ok (.iastore, 1) := by decide +kernel
theorem dX12_plan_57 : decode cX12_plan 57 = .ok (.aload_n 0, 1) := by decide +kernel
theorem dX12_plan_58 : decode cX12_plan 58 = .ok (.getfield 76, 3) := by decide +kernel
theorem dX12_plan_61 : decode cX12_plan 61 = .ok (.aload_n 0, 1) := by decide +kernel
theorem dX12_plan_62 : decode cX12_plan 62 = .ok (.dup, 1) := by decide +kernel
theorem dX12_plan_63 : decode cX12_plan 63 = .ok (.getfield 308, 3) := by decide +kernel
theorem dX12_plan_66 : decode cX12_plan 66 = .ok (.dup_x1, 1) := by decide +kernel
theorem dX12_plan_67 : decode cX12_plan 67 = .ok (.iconst 1, 1) := by decide +kernel
theorem dX12_plan_68 : decode cX12_plan 68 = .ok (.iadd, 1) := by decide +kernel
theorem dX12_plan_69 : decode cX12_plan 69 = .ok (.putfield 308, 3) := by decide +kernel
theorem dX12_plan_72 : decode cX12_plan 72 = .ok (.iload_n 1, 1) := by decide +kernel
theorem dX12_plan_73 : decode cX12_plan 73 = .ok (.ifCond .ne 7, 3) := by decide +kernel
theorem dX12_plan_76 : decode cX12_plan 76 = .ok (.iconst 0, 1) := by decide +kernel
theorem dX12_plan_77 : decode cX12_plan 77 = .ok (.goto 4, 3) := by decide +kernel
theorem dX12_plan_80 : decode cX12_plan 80 = .ok (.iload_n 2, 1) := by decide +kernel
theorem dX12_plan_81 : decode cX12_plan 81 = .ok (.iastore, 1) := by decide +kernel
theorem dX12_plan_82 : decode cX12_plan 82 = .ok (.aload_n 0, 1) := by decide +kernel
theorem dX12_plan_83 : decode cX12_plan 83 = .ok (.getfield 308, 3) := by decide +kernel
theorem dX12_plan_86 : decode cX12_plan 86 = .ok (.ireturn, 1) := by decide +kernel
theorem dX12_ends_0 : decode cX12_ends 0 = .ok (.iload_n 1, 1) := by decide +kernel
theorem dX12_ends_1 : decode cX12_ends 1 = .ok (.iconst 0, 1) := by decide +kernel
theorem dX12_ends_2 : decode cX12_ends 2 = .ok (.iconst 1, 1) := by decide +kernel
theorem dX12_ends_3 : decode cX12_ends 3 = .ok (.invokestatic 117, 3) := by decide +kernel
theorem dX12_ends_6 : decode cX12_ends 6 = .ok (.ifCond .ne 5, 3) := by decide +kernel
theorem dX12_ends_9 : decode cX12_ends 9 = .ok (.iconst (-1), 1) := by decide +kernel
theorem dX12_ends_10 : decode cX12_ends 10 = .ok (.ireturn, 1) := by decide +kernel
theorem dX12_ends_11 : decode cX12_ends 11 = .ok (.aload_n 0, 1) := by decide +kernel
theorem dX12_ends_12 : decode cX12_ends 12 = .ok (.aload_n 0, 1) := by decide +kernel
theorem dX12_ends_13 : decode cX12_ends 13 = .ok (.getfield 91, 3) := by decide +kernel
theorem dX12_ends_16 : decode cX12_ends 16 = .ok (.invokevirtual 271, 3) := by decide +kernel
theorem dX12_ends_19 : decode cX12_ends 19 = .ok (.iconst 0, 1) := by decide +kernel
theorem dX12_ends_20 : decode cX12_ends 20 = .ok (.istore_n 2, 1) := by decide +kernel
theorem dX12_ends_21 : decode cX12_ends 21 = .ok (.iload_n 2, 1) := by decide +kernel
theorem dX12_ends_22 : decode cX12_ends 22 = .ok (.aload_n 0, 1) := by decide +kernel
theorem dX12_ends_23 : decode cX12_ends 23 = .ok (.getfield 308, 3) := by decide +kernel
theorem dX12_ends_26 : decode cX12_ends 26 = .ok (.if_icmp .ge 86, 3) := by decide +kernel
theorem dX12_ends_29 : decode cX12_ends 29 = .ok (.aload_n 0, 1) := by decide +kernel
theorem dX12_ends_30 : decode cX12_ends 30 = .ok (.getfield 76, 3) := by decide +kernel
theorem dX12_ends_33 : decode cX12_ends 33 = .ok (.iload_n 2, 1) := by decide +kernel
theorem dX12_ends_34 : decode cX12_ends 34 = .ok (.iaload, 1) := by decide +kernel
theorem dX12_ends_35 : decode cX12_ends 35 = .ok (.istore_n 3, 1) := by decide +kernel
theorem dX12_ends_36 : decode cX12_ends 36 = .ok (.aload_n 0, 1) := by decide +kernel
theorem dX12_ends_37 : decode cX12_ends 37 = .ok (.getfield 73, 3) := by decide +kernel
theorem dX12_ends_40 : decode cX12_ends 40 = .ok (.iload_n 2, 1) := by decide +kernel
theorem dX12_ends_41 : decode cX12_ends 41 = .ok (.iaload, 1) := by decide +kernel
theorem dX12_ends_42 : decode cX12_ends 42 = .ok (.ifCond .ne 10, 3) := by decide +kernel
theorem dX12_ends_45 : decode cX12_ends 45 = .ok (.aload_n 0, 1) := by decide +kernel
theorem dX12_ends_46 : decode cX12_ends 46 = .ok (.invokevirtual 268, 3) := by decide +kernel
theorem dX12_ends_49 : decode cX12_ends 49 = .ok (.goto 57, 3) := by decide +kernel
theorem dX12_ends_52 : decode cX12_ends 52 = .ok (.aload_n 0, 1) := by decide +kernel
theorem dX12_ends_53 : decode cX12_ends 53 = .ok (.getfield 73, 3) := by decide +kernel
theorem dX12_ends_56 : decode cX12_ends 56 = .ok (.iload_n 2, 1) := by decide +kernel
theorem dX12_ends_57 : decode cX12_ends 57 = .ok (.iaload, 1) := by decide +kernel
theorem dX12_ends_58 : decode cX12_ends 58 = .ok (.iconst 2, 1) := by decide +kernel
theorem dX12_ends_59 : decode cX12_ends 59 = .ok (.if_icmp .ne 13, 3) := by decide +kernel
theorem dX12_ends_62 : decode cX12_ends 62 = .ok (.aload_n 0, 1) := by decide +kernel
theorem dX12_ends_63 : decode cX12_ends 63 = .ok (.getfield 30, 3) := by decide +kernel
theorem dX12_ends_66 : decode cX12_ends 66 = .ok (.iload_n 3, 1) := by decide +kernel
theorem dX12_ends_67 : decode cX12_ends 67 = .ok (.iconst 0, 1) := by decide +kernel
theorem dX12_ends_68 : decode cX12_ends 68 = .ok (.iastore, 1) := by decide +kernel
theorem dX12_ends_69 : decode cX12_ends 69 = .ok (.goto 37, 3) := by decide +kernel
theorem dX12_ends_72 : decode cX12_ends 72 = .ok (.aload_n 0, 1) := by decide +kernel
theorem dX12_ends_73 : decode cX12_ends 73 = .ok (.getfield 73, 3) := by decide +kernel
theorem dX12_ends_76 : decode cX12_ends 76 = .ok (.iload_n 2, 1) := by decide +kernel
theorem dX12_ends_77 : decode cX12_ends 77 = .ok (.iaload, 1) := by decide +kernel
theorem dX12_ends_78 : decode cX12_ends 78 = .ok (.iconst 3, 1) := by decide +kernel
theorem dX12_ends_79 : decode cX12_ends 79 = .ok (.if_icmp .ne 13, 3) := by decide +kernel
theorem dX12_ends_82 : decode cX12_ends 82 = .ok (.aload_n 0, 1) := by decide +kernel
theorem dX12_ends_83 : decode cX12_ends 83 = .ok (.getfield 33, 3) := by decide +kernel
theorem dX12_ends_86 : decode cX12_ends 86 = .ok (.iload_n 3, 1) := by decide +kernel
theorem dX12_ends_87 : decode cX12_ends 87 = .ok (.iconst 0, 1) := by decide +kernel
theorem dX12_ends_88 : decode cX12_ends 88 = .ok (.iastore, 1) := by decide +kernel
theorem dX12_ends_89 : decode cX12_ends 89 = .ok (.goto 17, 3) := by decide +kernel
theorem dX12_ends_92 : decode cX12_ends 92 = .ok (.aload_n 0, 1) := by decide +kernel
theorem dX12_ends_93 : decode cX12_ends 93 = .ok (.getfield 33, 3) := by decide +kernel
theorem dX12_ends_96 : decode cX12_ends 96 = .ok (.iload_n 3, 1) := by decide +kernel
theorem dX12_ends_97 : decode cX12_ends 97 = .ok (.iaload, 1) := by decide +kernel
theorem dX12_ends_98 : decode cX12_ends 98 = .ok (.ifCond .ne 8, 3) := by decide +kernel
theorem dX12_ends_101 : decode cX12_ends 101 = .ok (.aload_n 0, 1) := by decide +kernel
theorem dX12_ends_102 : decode cX12_ends 102 = .ok (.iload_n 3, 1) := by decide +kernel
theorem dX12_ends_103 : decode cX12_ends 103 = .ok (.invokevirtual 142, 3) := by decide +kernel
theorem dX12_ends_106 : decode cX12_ends 106 = .ok (.iinc 2 1, 3) := by decide +kernel
theorem dX12_ends_109 : decode cX12_ends 109 = .ok (.goto (-88), 3) := by decide +kernel
theorem dX12_ends_112 : decode cX12_ends 112 = .ok (.iload_n 1, 1) := by decide +kernel
theorem dX12_ends_113 : decode cX12_ends 113 = .ok (.ifCond .ne 10, 3) := by decide +kernel
theorem dX12_ends_116 : decode cX12_ends 116 = .ok (.aload_n 0, 1) := by decide +kernel
theorem dX12_ends_117 : decode cX12_ends 117 = .ok (.invokevirtual 265, 3) := by decide +kernel
theorem dX12_ends_120 : decode cX12_ends 120 = .ok (.goto 8, 3) := by decide +kernel
theorem dX12_ends_123 : decode cX12_ends 123 = .ok (.aload_n 0, 1) := by decide +kernel
theorem dX12_ends_124 : decode cX12_ends 124 = .ok (.iconst 2, 1) := by decide +kernel
theorem dX12_ends_125 : decode cX12_ends 125 = .ok (.invokevirtual 237, 3) := by decide +kernel
theorem dX12_ends_128 : decode cX12_ends 128 = .ok (.istore_n 2, 1) := by decide +kernel
theorem dX12_ends_129 : decode cX12_ends 129 = .ok (.aload_n 0, 1) := by decide +kernel
theorem dX12_ends_130 : decode cX12_ends 130 = .ok (.aload_n 0, 1) := by decide +kernel
theorem dX12_ends_131 : decode cX12_ends 131 = .ok (.getfield 91, 3) := by decide +kernel
theorem dX12_ends_134 : decode cX12_ends 134 = .ok (.invokevirtual 275, 3) := by decide +kernel
theorem dX12_ends_137 : decode cX12_ends 137 = .ok (.iload_n 2, 1) := by decide +kernel
theorem dX12_ends_138 : decode cX12_ends 138 = .ok (.ireturn, 1) := by decide +kernel
theorem dX12_book_0 : decode cX12_book 0 = .ok (.iload_n 1, 1) := by decide +kernel
theorem dX12_book_1 : decode cX12_book 1 = .ok (.iconst (-1), 1) := by decide +kernel
theorem dX12_book_2 : decode cX12_book 2 = .ok (.if_icmp .ne 10, 3) := by decide +kernel
theorem dX12_book_5 : decode cX12_book 5 = .ok (.aload_n 0, 1) := by decide +kernel
theorem dX12_book_6 : decode cX12_book 6 = .ok (.iconst 0, 1) := by decide +kernel
theorem dX12_book_7 : decode cX12_book 7 = .ok (.putfield 311, 3) := by decide +kernel
theorem dX12_book_10 : decode cX12_book 10 = .ok (.iconst 0, 1) := by decide +kernel
theorem dX12_book_11 : decode cX12_book 11 = .ok (.ireturn, 1) := by decide +kernel
theorem dX12_book_12 : decode cX12_book 12 = .ok (.aload_n 0, 1) := by decide +kernel
theorem dX12_book_13 : decode cX12_book 13 = .ok (.iload_n 1, 1) := by decide +kernel
theorem dX12_book_14 : decode cX12_book 14 = .ok (.invokevirtual 125, 3) := by decide +kernel
theorem dX12_book_17 : decode cX12_book 17 = .ok (.ifCond .ne 5, 3) := by decide +kernel
theorem dX12_book_20 : decode cX12_book 20 = .ok (.iconst (-1), 1) := by decide +kernel
theorem dX12_book_21 : decode cX12_book 21 = .ok (.ireturn, 1) := by decide +kernel
theorem dX12_book_22 : decode cX12_book 22 = .ok (.iload_n 2, 1) := by decide +kernel
theorem dX12_book_23 : decode cX12_book 23 = .ok (.iconst 0, 1) := by decide +kernel
theorem dX12_book_24 : decode cX12_book 24 = .ok (.bipush 99, 2) := by decide +kernel
theorem dX12_book_26 : decode cX12_book 26 = .ok (.invokestatic 117, 3) := by decide +kernel
theorem dX12_book_29 : decode cX12_book 29 = .ok (.ifCond .ne 6, 3) := by decide +kernel
theorem dX12_book_32 : decode cX12_book 32 = .ok (.bipush (-2), 2) := by decide +kernel
theorem dX12_book_34 : decode cX12_book 34 = .ok (.ireturn, 1) := by decide +kernel
theorem dX12_book_35 : decode cX12_book 35 = .ok (.aload_n 0, 1) := by decide +kernel
theorem dX12_book_36 : decode cX12_book 36 = .ok (.getfield 311, 3) := by decide +kernel
theorem dX12_book_39 : decode cX12_book 39 = .ok (.bipush 8, 2) := by decide +kernel
theorem dX12_book_41 : decode cX12_book 41 = .ok (.if_icmp .ne 6, 3) := by decide +kernel
theorem dX12_book_44 : decode cX12_book 44 = .ok (.bipush (-4), 2) := by decide +kernel
theorem dX12_book_46 : decode cX12_book 46 = .ok (.ireturn, 1) := by decide +kernel
theorem dX12_book_47 : decode cX12_book 47 = .ok (.aload_n 0, 1) := by decide +kernel
theorem dX12_book_48 : decode cX12_book 48 = .ok (.getfield 79, 3) := by decide +kernel
theorem dX12_book_51 : decode cX12_book 51 = .ok (.aload_n 0, 1) := by decide +kernel
theorem dX12_book_52 : decode cX12_book 52 = .ok (.getfield 311, 3) := by decide +kernel
theorem dX12_book_55 : decode cX12_book 55 = .ok (.iload_n 1, 1) := by decide +kernel
theorem dX12_book_56 : decode cX12_book 56 = .ok (.iastore, 1) := by decide +kernel
theorem dX12_book_57 : decode cX12_book 57 = .ok (.aload_n 0, 1) := by decide +kernel
theorem dX12_book_58 : decode cX12_book 58 = .ok (.getfield 82, 3) := by decide +kernel
theorem dX12_book_61 : decode cX12_book 61 = .ok (.aload_n 0, 1) := by decide +kernel
theorem dX12_book_62 : decode cX12_book 62 = .ok (.dup, 1) := by decide +kernel
theorem dX12_book_63 : decode cX12_book 63 = .ok (.getfield 311, 3) := by decide +kernel
theorem dX12_book_66 : decode cX12_book 66 = .ok (.dup_x1, 1) := by decide +kernel
theorem dX12_book_67 : decode cX12_book 67 = .ok (.iconst 1, 1) := by decide +kernel
theorem dX12_book_68 : decode cX12_book 68 = .ok (.iadd, 1) := by decide +kernel
theorem dX12_book_69 : decode cX12_book 69 = .ok (.putfield 311, 3) := by decide +kernel
theorem dX12_book_72 : decode cX12_book 72 = .ok (.iload_n 2, 1) := by decide +kernel
theorem dX12_book_73 : decode cX12_book 73 = .ok (.iastore, 1) := by decide +kernel
theorem dX12_book_74 : decode cX12_book 74 = .ok (.aload_n 0, 1) := by decide +kernel
theorem dX12_book_75 : decode cX12_book 75 = .ok (.getfield 311, 3) := by decide +kernel
theorem dX12_book_78 : decode cX12_book 78 = .ok (.ireturn, 1) := by decide +kernel
theorem dX12_looked_0 : decode cX12_looked 0 = .ok (.iconst 0, 1) := by decide +kernel
theorem dX12_looked_1 : decode cX12_looked 1 = .ok (.istore_n 1, 1) := by decide +kernel
theorem dX12_looked_2 : decode cX12_looked 2 = .ok (.iload_n 1, 1) := by decide +kernel
theorem dX12_looked_3 : decode cX12_looked 3 = .ok (.aload_n 0, 1) := by decide +kernel
theorem dX12_looked_4 : decode cX12_looked 4 = .ok (.getfield 311, 3) := by decide +kernel
theorem dX12_looked_7 : decode cX12_looked 7 = .ok (.if_icmp .ge 31, 3) := by decide +kernel
theorem dX12_looked_10 : decode cX12_looked 10 = .ok (.aload_n 0, 1) := by decide +kernel
theorem dX12_looked_11 : decode cX12_looked 11 = .ok (.getfield 30, 3) := by decide +kernel
theorem dX12_looked_14 : decode cX12_looked 14 = .ok (.aload_n 0, 1) := by decide +kernel
theorem dX12_looked_15 : decode cX12_looked 15 = .ok (.getfield 79, 3) := by decide +kernel
theorem dX12_looked_18 : decode cX12_looked 18 = .ok (.iload_n 1, 1) := by decide +kernel
theorem dX12_looked_19 : decode cX12_looked 19 = .ok (.iaload, 1) := by decide +kernel
theorem dX12_looked_20 : decode cX12_looked 20 = .ok (.iaload, 1) := by decide +kernel
theorem dX12_looked_21 : decode cX12_looked 21 = .ok (.aload_n 0, 1) := by decide +kernel
theorem dX12_looked_22 : decode cX12_looked 22 = .ok (.getfield 82, 3) := by decide +kernel
theorem dX12_looked_25 : decode cX12_looked 25 = .ok (.iload_n 1, 1) := by decide +kernel
theorem dX12_looked_26 : decode cX12_looked 26 = .ok (.iaload, 1) := by decide +kernel
theorem dX12_looked_27 : decode cX12_looked 27 = .ok (.if_icmp .eq 5, 3) := by decide +kernel
theorem dX12_looked_30 : decode cX12_looked 30 = .ok (.iload_n 1, 1) := by decide +kernel
theorem dX12_looked_31 : decode cX12_looked 31 = .ok (.ireturn, 1) := by decide +kernel
theorem dX12_looked_32 : decode cX12_looked 32 = .ok (.iinc 1 1, 3) := by decide +kernel
theorem dX12_looked_35 : decode cX12_looked 35 = .ok (.goto (-33), 3) := by decide +kernel
theorem dX12_looked_38 : decode cX12_looked 38 = .ok (.bipush (-5), 2) := by decide +kernel
theorem dX12_looked_40 : decode cX12_looked 40 = .ok (.ireturn, 1) := by decide +kernel
theorem dX12_judge_0 : decode cX12_judge 0 = .ok (.iload_n 1, 1) := by decide +kernel
theorem dX12_judge_1 : decode cX12_judge 1 = .ok (.iconst 0, 1) := by decide +kernel
theorem dX12_judge_2 : decode cX12_judge 2 = .ok (.iconst 5, 1) := by decide +kernel
theorem dX12_judge_3 : decode cX12_judge 3 = .ok (.invokestatic 117, 3) := by decide +kernel
theorem dX12_judge_6 : decode cX12_judge 6 = .ok (.ifCond .ne 5, 3) := by decide +kernel
theorem dX12_judge_9 : decode cX12_judge 9 = .ok (.iconst (-1), 1) := by decide +kernel
theorem dX12_judge_10 : decode cX12_judge 10 = .ok (.ireturn, 1) := by decide +kernel
theorem dX12_judge_11 : decode cX12_judge 11 = .ok (.aload_n 0, 1) := by decide +kernel
theorem dX12_judge_12 : decode cX12_judge 12 = .ok (.getfield 100, 3) := by decide +kernel
theorem dX12_judge_15 : decode cX12_judge 15 = .ok (.iload_n 1, 1) := by decide +kernel
theorem dX12_judge_16 : decode cX12_judge 16 = .ok (.iaload, 1) := by decide +kernel
theorem dX12_judge_17 : decode cX12_judge 17 = .ok (.iconst (-1), 1) := by decide +kernel
theorem dX12_judge_18 : decode cX12_judge 18 = .ok (.if_icmp .eq 16, 3) := by decide +kernel
theorem dX12_judge_21 : decode cX12_judge 21 = .ok (.aload_n 0, 1) := by decide +kernel
theorem dX12_judge_22 : decode cX12_judge 22 = .ok (.getfield 100, 3) := by decide +kernel
theorem dX12_judge_25 : decode cX12_judge 25 = .ok (.iload_n 1, 1) := by decide +kernel
theorem dX12_judge_26 : decode cX12_judge 26 = .ok (.iaload, 1) := by decide +kernel
theorem dX12_judge_27 : decode cX12_judge 27 = .ok (.iconst 1, 1) := by decide +kernel
theorem dX12_judge_28 : decode cX12_judge 28 = .ok (.if_icmp .eq 6, 3) := by decide +kernel
theorem dX12_judge_31 : decode cX12_judge 31 = .ok (.bipush (-12), 2) := by decide +kernel
theorem dX12_judge_33 : decode cX12_judge 33 = .ok (.ireturn, 1) := by decide +kernel
theorem dX12_judge_34 : decode cX12_judge 34 = .ok (.iconst 0, 1) := by decide +kernel
theorem dX12_judge_35 : decode cX12_judge 35 = .ok (.istore_n 3, 1) := by decide +kernel
theorem dX12_judge_36 : decode cX12_judge 36 = .ok (.iload_n 3, 1) := by decide +kernel
theorem dX12_judge_37 : decode cX12_judge 37 = .ok (.iconst 4, 1) := by decide +kernel
theorem dX12_judge_38 : decode cX12_judge 38 = .ok (.if_icmp .ge 70, 3) := by decide +kernel
theorem dX12_judge_41 : decode cX12_judge 41 = .ok (.aload_n 0, 1) := by decide +kernel
theorem dX12_judge_42 : decode cX12_judge 42 = .ok (.getfield 100, 3) := by decide +kernel
theorem dX12_judge_45 : decode cX12_judge 45 = .ok (.iload_n 1, 1) := by decide +kernel
theorem dX12_judge_46 : decode cX12_judge 46 = .ok (.iaload, 1) := by decide +kernel
theorem dX12_judge_47 : decode cX12_judge 47 = .ok (.iconst (-1), 1) := by decide +kernel
theorem dX12_judge_48 : decode cX12_judge 48 = .ok (.if_icmp .eq 23, 3) := by decide +kernel
theorem dX12_judge_51 : decode cX12_judge 51 = .ok (.iload_n 2, 1) := by decide +kernel
theorem dX12_judge_52 : decode cX12_judge 52 = .ok (.ifCond .lt 19, 3) := by decide +kernel
theorem dX12_judge_55 : decode cX12_judge 55 = .ok (.iload_n 2, 1) := by decide +kernel
theorem dX12_judge_56 : decode cX12_judge 56 = .ok (.i2l, 1) := by decide +kernel
theorem dX12_judge_57 : decode cX12_judge 57 = .ok (.iload_n 3, 1) := by decide +kernel
theorem dX12_judge_58 : decode cX12_judge 58 = .ok (.i2l, 1) := by decide +kernel
theorem dX12_judge_59 : decode cX12_judge 59 = .ok (.ladd, 1) := by decide +kernel
theorem dX12_judge_60 : decode cX12_judge 60 = .ok (.aload_n 0, 1) := by decide +kernel
theorem dX12_judge_61 : decode cX12_judge 61 = .ok (.getfield 103, 3) := by decide +kernel
theorem dX12_judge_64 : decode cX12_judge 64 = .ok (.iload_n 1, 1) := by decide +kernel
theorem dX12_judge_65 : decode cX12_judge 65 = .ok (.iaload, 1) := by decide +kernel
theorem dX12_judge_66 : decode cX12_judge 66 = .ok (.i2l, 1) := by decide +kernel
theorem dX12_judge_67 : decode cX12_judge 67 = .ok (.lcmp, 1) := by decide +kernel
theorem dX12_judge_68 : decode cX12_judge 68 = .ok (.ifCond .lt 8, 3) := by decide +kernel
theorem dX12_judge_71 : decode cX12_judge 71 = .ok (.bipush 100, 2) := by decide +kernel
theorem dX12_judge_73 : decode cX12_judge 73 = .ok (.iload_n 3, 1) := by decide +kernel
theorem dX12_judge_74 : decode cX12_judge 74 = .ok (.iadd, 1) := by decide +kernel
theorem dX12_judge_75 : decode cX12_judge 75 = .ok (.ireturn, 1) := by decide +kernel
theorem dX12_judge_76 : decode cX12_judge 76 = .ok (.aload_n 0, 1) := by decide +kernel
theorem dX12_judge_77 : decode cX12_judge 77 = .ok (.getfield 106, 3) := by decide +kernel
theorem dX12_judge_80 : decode cX12_judge 80 = .ok (.bipush 60, 2) := by decide +kernel
theorem dX12_judge_82 : decode cX12_judge 82 = .ok (.iload_n 1, 1) := by decide +kernel
theorem dX12_judge_83 : decode cX12_judge 83 = .ok (.imul, 1) := by decide +kernel
theorem dX12_judge_84 : decode cX12_judge 84 = .ok (.iload_n 2, 1) := by decide +kernel
theorem dX12_judge_85 : decode cX12_judge 85 = .ok (.iadd, 1) := by decide +kernel
theorem dX12_judge_86 : decode cX12_judge 86 = .ok (.iload_n 3, 1) := by decide +kernel
theorem dX12_judge_87 : decode cX12_judge 87 = .ok (.iadd, 1) := by decide +kernel
theorem dX12_judge_88 : decode cX12_judge 88 = .ok (.laload, 1) := by decide +kernel
theorem dX12_judge_89 : decode cX12_judge 89 = .ok (.aload_n 0, 1) := by decide +kernel
theorem dX12_judge_90 : decode cX12_judge 90 = .ok (.getfield 9, 3) := by decide +kernel
theorem dX12_judge_93 : decode cX12_judge 93 = .ok (.iload_n 3, 1) := by decide +kernel
theorem dX12_judge_94 : decode cX12_judge 94 = .ok (.iaload, 1) := by decide +kernel
theorem dX12_judge_95 : decode cX12_judge 95 = .ok (.i2l, 1) := by decide +kernel
theorem dX12_judge_96 : decode cX12_judge 96 = .ok (.lcmp, 1) := by decide +kernel
theorem dX12_judge_97 : decode cX12_judge 97 = .ok (.ifCond .eq 5, 3) := by decide +kernel
theorem dX12_judge_100 : decode cX12_judge 100 = .ok (.iload_n 3, 1) := by decide +kernel
theorem dX12_judge_101 : decode cX12_judge 101 = .ok (.ireturn, 1) := by decide +kernel
theorem dX12_judge_102 : decode cX12_judge 102 = .ok (.iinc 3 1, 3) := by decide +kernel
theorem dX12_judge_105 : decode cX12_judge 105 = .ok (.goto (-69), 3) := by decide +kernel
theorem dX12_judge_108 : decode cX12_judge 108 = .ok (.bipush (-5), 2) := by decide +kernel
theorem dX12_judge_110 : decode cX12_judge 110 = .ok (.ireturn, 1) := by decide +kernel
theorem dX12_keep_0 : decode cX12_keep 0 = .ok (.iconst 0, 1) := by decide +kernel
theorem dX12_keep_1 : decode cX12_keep 1 = .ok (.istore_n 2, 1) := by decide +kernel
theorem dX12_keep_2 : decode cX12_keep 2 = .ok (.iload_n 2, 1) := by decide +kernel
theorem dX12_keep_3 : decode cX12_keep 3 = .ok (.iconst 4, 1) := by decide +kernel
theorem dX12_keep_4 : decode cX12_keep 4 = .ok (.if_icmp .ge 29, 3) := by decide +kernel
theorem dX12_keep_7 : decode cX12_keep 7 = .ok (.aload_n 1, 1) := by decide +kernel
theorem dX12_keep_8 : decode cX12_keep 8 = .ok (.iload_n 2, 1) := by decide +kernel
theorem dX12_keep_9 : decode cX12_keep 9 = .ok (.aload_n 0, 1) := by decide +kernel
theorem dX12_keep_10 : decode cX12_keep 10 = .ok (.getfield 9, 3) := by decide +kernel
theorem dX12_keep_13 : decode cX12_keep 13 = .ok (.iload_n 2, 1) := by decide +kernel
theorem dX12_keep_14 : decode cX12_keep 14 = .ok (.iaload, 1) := by decide +kernel
theorem dX12_keep_15 : decode cX12_keep 15 = .ok (.iastore, 1) := by decide +kernel
theorem dX12_keep_16 : decode cX12_keep 16 = .ok (.aload_n 1, 1) := by decide +kernel
theorem dX12_keep_17 : decode cX12_keep 17 = .ok (.iconst 4, 1) := by decide +kernel
theorem dX12_keep_18 : decode cX12_keep 18 = .ok (.iload_n 2, 1) := by decide +kernel
theorem dX12_keep_19 : decode cX12_keep 19 = .ok (.iadd, 1) := by decide +kernel
theorem dX12_keep_20 : decode cX12_keep 20 = .ok (.aload_n 0, 1) := by decide +kernel
theorem dX12_keep_21 : decode cX12_keep 21 = .ok (.getfield 15, 3) := by decide +kernel
theorem dX12_keep_24 : decode cX12_keep 24 = .ok (.iload_n 2, 1) := by decide +kernel
theorem dX12_keep_25 : decode cX12_keep 25 = .ok (.iaload, 1) := by decide +kernel
theorem dX12_keep_26 : decode cX12_keep 26 = .ok (.iastore, 1) := by decide +kernel
theorem dX12_keep_27 : decode cX12_keep 27 = .ok (.iinc 2 1, 3) := by decide +kernel
theorem dX12_keep_30 : decode cX12_keep 30 = .ok (.goto (-28), 3) := by decide +kernel
theorem dX12_keep_33 : decode cX12_keep 33 = .ok (.iconst 0, 1) := by decide +kernel
theorem dX12_keep_34 : decode cX12_keep 34 = .ok (.istore_n 2, 1) := by decide +kernel
theorem dX12_keep_35 : decode cX12_keep 35 = .ok (.iload_n 2, 1) := by decide +kernel
theorem dX12_keep_36 : decode cX12_keep 36 = .ok (.bipush 6, 2) := by decide +kernel
theorem dX12_keep_38 : decode cX12_keep 38 = .ok (.if_icmp .ge 81, 3) := by decide +kernel
theorem dX12_keep_41 : decode cX12_keep 41 = .ok (.aload_n 1, 1) := by decide +kernel
theorem dX12_keep_42 : decode cX12_keep 42 = .ok (.bipush 8, 2) := by decide +kernel
theorem dX12_keep_44 : decode cX12_keep 44 = .ok (.iload_n 2, 1) := by decide +kernel
theorem dX12_keep_45 : decode cX12_keep 45 = .ok (.iadd, 1) := by decide +kernel
theorem dX12_keep_46 : decode cX12_keep 46 = .ok (.aload_n 0, 1) := by decide +kernel
theorem dX12_keep_47 : decode cX12_keep 47 = .ok (.getfield 18, 3) := by decide +kernel
theorem dX12_keep_50 : decode cX12_keep 50 = .ok (.iload_n 2, 1) := by decide +kernel
theorem dX12_keep_51 : decode cX12_keep 51 = .ok (.iaload, 1) := by decide +kernel
theorem dX12_keep_52 : decode cX12_keep 52 = .ok (.iastore, 1) := by decide +kernel
theorem dX12_keep_53 : decode cX12_keep 53 = .ok (.aload_n 1, 1) := by decide +kernel
theorem dX12_keep_54 : decode cX12_keep 54 = .ok (.bipush 14, 2) := by decide +kernel
theorem dX12_keep_56 : decode cX12_keep 56 = .ok (.iload_n 2, 1) := by decide +kernel
theorem dX12_keep_57 : decode cX12_keep 57 = .ok (.iadd, 1) := by decide +kernel
theorem dX12_keep_58 : decode cX12_keep 58 = .ok (.aload_n 0, 1) := by decide +kernel
theorem dX12_keep_59 : decode cX12_keep 59 = .ok (.getfield 21, 3) := by decide +kernel
theorem dX12_keep_62 : decode cX12_keep 62 = .ok (.iload_n 2, 1) := by decide +kernel
theorem dX12_keep_63 : decode cX12_keep 63 = .ok (.iaload, 1) := by decide +kernel
theorem dX12_keep_64 : decode cX12_keep 64 = .ok (.iastore, 1) := by decide +kernel
theorem dX12_keep_65 : decode cX12_keep 65 = .ok (.aload_n 1, 1) := by decide +kernel
theorem dX12_keep_66 : decode cX12_keep 66 = .ok (.bipush 20, 2) := by decide +kernel
theorem dX12_keep_68 : decode cX12_keep 68 = .ok (.iload_n 2, 1) := by decide +kernel
theorem dX12_keep_69 : decode cX12_keep 69 = .ok (.iadd, 1) := by decide +kernel
theorem dX12_keep_70 : decode cX12_keep 70 = .ok (.aload_n 0, 1) := by decide +kernel
theorem dX12_keep_71 : decode cX12_keep 71 = .ok (.getfield 24, 3) := by decide +kernel
theorem dX12_keep_74 : decode cX12_keep 74 = .ok (.iload_n 2, 1) := by decide +kernel
theorem dX12_keep_75 : decode cX12_keep 75 = .ok (.iaload, 1) := by decide +kernel
theorem dX12_keep_76 : decode cX12_keep 76 = .ok (.iastore, 1) := by decide +kernel
theorem dX12_keep_77 : decode cX12_keep 77 = .ok (.aload_n 1, 1) := by decide +kernel
theorem dX12_keep_78 : decode cX12_keep 78 = .ok (.bipush 26, 2) := by decide +kernel
theorem dX12_keep_80 : decode cX12_keep 80 = .ok (.iload_n 2, 1) := by decide +kernel
theorem dX12_keep_81 : decode cX12_keep 81 = .ok (.iadd, 1) := by decide +kernel
theorem dX12_keep_82 : decode cX12_keep 82 = .ok (.aload_n 0, 1) := by decide +kernel
theorem dX12_keep_83 : decode cX12_keep 83 = .ok (.getfield 27, 3) := by decide +kernel
theorem dX12_keep_86 : decode cX12_keep 86 = .ok (.iload_n 2, 1) := by decide +kernel
theorem dX12_keep_87 : decode cX12_keep 87 = .ok (.iaload, 1) := by decide +kernel
theorem dX12_keep_88 : decode cX12_keep 88 = .ok (.iastore, 1) := by decide +kernel
theorem dX12_keep_89 : decode cX12_keep 89 = .ok (.aload_n 1, 1) := by decide +kernel
theorem dX12_keep_90 : decode cX12_keep 90 = .ok (.bipush 32, 2) := by decide +kernel
theorem dX12_keep_92 : decode cX12_keep 92 = .ok (.iload_n 2, 1) := by decide +kernel
theorem dX12_keep_93 : decode cX12_keep 93 = .ok (.iadd, 1) := by decide +kernel
theorem dX12_keep_94 : decode cX12_keep 94 = .ok (.aload_n 0, 1) := by decide +kernel
theorem dX12_keep_95 : decode cX12_keep 95 = .ok (.getfield 30, 3) := by decide +kernel
theorem dX12_keep_98 : decode cX12_keep 98 = .ok (.iload_n 2, 1) := by decide +kernel
theorem dX12_keep_99 : decode cX12_keep 99 = .ok (.iaload, 1) := by decide +kernel
theorem dX12_keep_100 : decode cX12_keep 100 = .ok (.iastore, 1) := by decide +kernel
theorem dX12_keep_101 : decode cX12_keep 101 = .ok (.aload_n 1, 1) := by decide +kernel
theorem dX12_keep_102 : decode cX12_keep 102 = .ok (.bipush 38, 2) := by decide +kernel
theorem dX12_keep_104 : decode cX12_keep 104 = .ok (.iload_n 2, 1) := by decide +kernel
theorem dX12_keep_105 : decode cX12_keep 105 = .ok (.iadd, 1) := by decide +kernel
theorem dX12_keep_106 : decode cX12_keep 106 = .ok (.aload_n 0, 1) := by decide +kernel
theorem dX12_keep_107 : decode cX12_keep 107 = .ok (.getfield 33, 3) := by decide +kernel
theorem dX12_keep_110 : decode cX12_keep 110 = .ok (.iload_n 2, 1) := by decide +kernel
theorem dX12_keep_111 : decode cX12_keep 111 = .ok (.iaload, 1) := by decide +kernel
theorem dX12_keep_112 : decode cX12_keep 112 = .ok (.iastore, 1) := by decide +kernel
theorem dX12_keep_113 : decode cX12_keep 113 = .ok (.iinc 2 1, 3) := by decide +kernel
theorem dX12_keep_116 : decode cX12_keep 116 = .ok (.goto (-81), 3) := by decide +kernel
theorem dX12_keep_119 : decode cX12_keep 119 = .ok (.iconst 0, 1) := by decide +kernel
theorem dX12_keep_120 : decode cX12_keep 120 = .ok (.istore_n 2, 1) := by decide +kernel
theorem dX12_keep_121 : decode cX12_keep 121 = .ok (.iload_n 2, 1) := by decide +kernel
theorem dX12_keep_122 : decode cX12_keep 122 = .ok (.bipush 24, 2) := by decide +kernel
theorem dX12_keep_124 : decode cX12_keep 124 = .ok (.if_icmp .ge 21, 3) := by decide +kernel
theorem dX12_keep_127 : decode cX12_keep 127 = .ok (.aload_n 1, 1) := by decide +kernel
theorem dX12_keep_128 : decode cX12_keep 128 = .ok (.bipush 44, 2) := by decide +kernel
theorem dX12_keep_130 : decode cX12_keep 130 = .ok (.iload_n 2, 1) := by decide +kernel
theorem dX12_keep_131 : decode cX12_keep 131 = .ok (.iadd, 1) := by decide +kernel
theorem dX12_keep_132 : decode cX12_keep 132 = .ok (.aload_n 0, 1) := by decide +kernel
theorem dX12_keep_133 : decode cX12_keep 133 = .ok (.getfield 36, 3) := by decide +kernel
theorem dX12_keep_136 : decode cX12_keep 136 = .ok (.iload_n 2, 1) := by decide +kernel
theorem dX12_keep_137 : decode cX12_keep 137 = .ok (.iaload, 1) := by decide +kernel
theorem dX12_keep_138 : decode cX12_keep 138 = .ok (.iastore, 1) := by decide +kernel
theorem dX12_keep_139 : decode cX12_keep 139 = .ok (.iinc 2 1, 3) := by decide +kernel
theorem dX12_keep_142 : decode cX12_keep 142 = .ok (.goto (-21), 3) := by decide +kernel
theorem dX12_keep_145 : decode cX12_keep 145 = .ok (.iconst 0, 1) := by decide +kernel
theorem dX12_keep_146 : decode cX12_keep 146 = .ok (.istore_n 2, 1) := by decide +kernel
theorem dX12_keep_147 : decode cX12_keep 147 = .ok (.iload_n 2, 1) := by decide +kernel
theorem dX12_keep_148 : decode cX12_keep 148 = .ok (.iconst 5, 1) := by decide +kernel
theorem dX12_keep_149 : decode cX12_keep 149 = .ok (.if_icmp .ge 45, 3) := by decide +kernel
theorem dX12_keep_152 : decode cX12_keep 152 = .ok (.aload_n 1, 1) := by decide +kernel
theorem dX12_keep_153 : decode cX12_keep 153 = .ok (.bipush 68, 2) := by decide +kernel
theorem dX12_keep_155 : decode cX12_keep 155 = .ok (.iload_n 2, 1) := by decide +kernel
theorem dX12_keep_156 : decode cX12_keep 156 = .ok (.iadd, 1) := by decide +kernel
theorem dX12_keep_157 : decode cX12_keep 157 = .ok (.aload_n 0, 1) := by decide +kernel
theorem dX12_keep_158 : decode cX12_keep 158 = .ok (.getfield 64, 3) := by decide +kernel
theorem dX12_keep_161 : decode cX12_keep 161 = .ok (.iload_n 2, 1) := by decide +kernel
theorem dX12_keep_162 : decode cX12_keep 162 = .ok (.iaload, 1) := by decide +kernel
theorem dX12_keep_163 : decode cX12_keep 163 = .ok (.iastore, 1) := by decide +kernel
theorem dX12_keep_164 : decode cX12_keep 164 = .ok (.aload_n 1, 1) := by decide +kernel
theorem dX12_keep_165 : decode cX12_keep 165 = .ok (.bipush 73, 2) := by decide +kernel
theorem dX12_keep_167 : decode cX12_keep 167 = .ok (.iload_n 2, 1) := by decide +kernel
theorem dX12_keep_168 : decode cX12_keep 168 = .ok (.iadd, 1) := by decide +kernel
theorem dX12_keep_169 : decode cX12_keep 169 = .ok (.aload_n 0, 1) := by decide +kernel
theorem dX12_keep_170 : decode cX12_keep 170 = .ok (.getfield 67, 3) := by decide +kernel
theorem dX12_keep_173 : decode cX12_keep 173 = .ok (.iload_n 2, 1) := by decide +kernel
theorem dX12_keep_174 : decode cX12_keep 174 = .ok (.iaload, 1) := by decide +kernel
theorem dX12_keep_175 : decode cX12_keep 175 = .ok (.iastore, 1) := by decide +kernel
theorem dX12_keep_176 : decode cX12_keep 176 = .ok (.aload_n 1, 1) := by decide +kernel
theorem dX12_keep_177 : decode cX12_keep 177 = .ok (.bipush 78, 2) := by decide +kernel
theorem dX12_keep_179 : decode cX12_keep 179 = .ok (.iload_n 2, 1) := by decide +kernel
theorem dX12_keep_180 : decode cX12_keep 180 = .ok (.iadd, 1) := by decide +kernel
theorem dX12_keep_181 : decode cX12_keep 181 = .ok (.aload_n 0, 1) := by decide +kernel
theorem dX12_keep_182 : decode cX12_keep 182 = .ok (.getfield 70, 3) := by decide +kernel
theorem dX12_keep_185 : decode cX12_keep 185 = .ok (.iload_n 2, 1) := by decide +kernel
theorem dX12_keep_186 : decode cX12_keep 186 = .ok (.iaload, 1) := by decide +kernel
theorem dX12_keep_187 : decode cX12_keep 187 = .ok (.iastore, 1) := by decide +kernel
theorem dX12_keep_188 : decode cX12_keep 188 = .ok (.iinc 2 1, 3) := by decide +kernel
theorem dX12_keep_191 : decode cX12_keep 191 = .ok (.goto (-44), 3) := by decide +kernel
theorem dX12_keep_194 : decode cX12_keep 194 = .ok (.iconst 0, 1) := by decide +kernel
theorem dX12_keep_195 : decode cX12_keep 195 = .ok (.istore_n 2, 1) := by decide +kernel
theorem dX12_keep_196 : decode cX12_keep 196 = .ok (.iload_n 2, 1) := by decide +kernel
theorem dX12_keep_197 : decode cX12_keep 197 = .ok (.bipush 10, 2) := by decide +kernel
theorem dX12_keep_199 : decode cX12_keep 199 = .ok (.if_icmp .ge 33, 3) := by decide +kernel
theorem dX12_keep_202 : decode cX12_keep 202 = .ok (.aload_n 1, 1) := by decide +kernel
theorem dX12_keep_203 : decode cX12_keep 203 = .ok (.bipush 83, 2) := by decide +kernel
theorem dX12_keep_205 : decode cX12_keep 205 = .ok (.iload_n 2, 1) := by decide +kernel
theorem dX12_keep_206 : decode cX12_keep 206 = .ok (.iadd, 1) := by decide +kernel
theorem dX12_keep_207 : decode cX12_keep 207 = .ok (.aload_n 0, 1) := by decide +kernel
theorem dX12_keep_208 : decode cX12_keep 208 = .ok (.getfield 73, 3) := by decide +kernel
theorem dX12_keep_211 : decode cX12_keep 211 = .ok (.iload_n 2, 1) := by decide +kernel
theorem dX12_keep_212 : decode cX12_keep 212 = .ok (.iaload, 1) := by decide +kernel
theorem dX12_keep_213 : decode cX12_keep 213 = .ok (.iastore, 1) := by decide +kernel
theorem dX12_keep_214 : decode cX12_keep 214 = .ok (.aload_n 1, 1) := by decide +kernel
theorem dX12_keep_215 : decode cX12_keep 215 = .ok (.bipush 93, 2) := by decide +kernel
theorem dX12_keep_217 : decode cX12_keep 217 = .ok (.iload_n 2, 1) := by decide +kernel
theorem dX12_keep_218 : decode cX12_keep 218 = .ok (.iadd, 1) := by decide +kernel
theorem dX12_keep_219 : decode cX12_keep 219 = .ok (.aload_n 0, 1) := by decide +kernel
theorem dX12_keep_220 : decode cX12_keep 220 = .ok (.getfield 76, 3) := by decide +kernel
theorem dX12_keep_223 : decode cX12_keep 223 = .ok (.iload_n 2, 1) := by decide +kernel
theorem dX12_keep_224 : decode cX12_keep 224 = .ok (.iaload, 1) := by decide +kernel
theorem dX12_keep_225 : decode cX12_keep 225 = .ok (.iastore, 1) := by decide +kernel
theorem dX12_keep_226 : decode cX12_keep 226 = .ok (.iinc 2 1, 3) := by decide +kernel
theorem dX12_keep_229 : decode cX12_keep 229 = .ok (.goto (-33), 3) := by decide +kernel
theorem dX12_keep_232 : decode cX12_keep 232 = .ok (.iconst 0, 1) := by decide +kernel
theorem dX12_keep_233 : decode cX12_keep 233 = .ok (.istore_n 2, 1) := by decide +kernel
theorem dX12_keep_234 : decode cX12_keep 234 = .ok (.iload_n 2, 1) := by decide +kernel
theorem dX12_keep_235 : decode cX12_keep 235 = .ok (.bipush 8, 2) := by decide +kernel
theorem dX12_keep_237 : decode cX12_keep 237 = .ok (.if_icmp .ge 33, 3) := by decide +kernel
theorem dX12_keep_240 : decode cX12_keep 240 = .ok (.aload_n 1, 1) := by decide +kernel
theorem dX12_keep_241 : decode cX12_keep 241 = .ok (.bipush 103, 2) := by decide +kernel
theorem dX12_keep_243 : decode cX12_keep 243 = .ok (.iload_n 2, 1) := by decide +kernel
theorem dX12_keep_244 : decode cX12_keep 244 = .ok (.iadd, 1) := by decide +kernel
theorem dX12_keep_245 : decode cX12_keep 245 = .ok (.aload_n 0, 1) := by decide +kernel
theorem dX12_keep_246 : decode cX12_keep 246 = .ok (.getfield 79, 3) := by decide +kernel
theorem dX12_keep_249 : decode cX12_keep 249 = .ok (.iload_n 2, 1) := by decide +kernel
theorem dX12_keep_250 : decode cX12_keep 250 = .ok (.iaload, 1) := by decide +kernel
theorem dX12_keep_251 : decode cX12_keep 251 = .ok (.iastore, 1) := by decide +kernel
theorem dX12_keep_252 : decode cX12_keep 252 = .ok (.aload_n 1, 1) := by decide +kernel
theorem dX12_keep_253 : decode cX12_keep 253 = .ok (.bipush 111, 2) := by decide +kernel
theorem dX12_keep_255 : decode cX12_keep 255 = .ok (.iload_n 2, 1) := by decide +kernel
theorem dX12_keep_256 : decode cX12_keep 256 = .ok (.iadd, 1) := by decide +kernel
theorem dX12_keep_257 : decode cX12_keep 257 = .ok (.aload_n 0, 1) := by decide +kernel
theorem dX12_keep_258 : decode cX12_keep 258 = .ok (.getfield 82, 3) := by decide +kernel
theorem dX12_keep_261 : decode cX12_keep 261 = .ok (.iload_n 2, 1) := by decide +kernel
theorem dX12_keep_262 : decode cX12_keep 262 = .ok (.iaload, 1) := by decide +kernel
theorem dX12_keep_263 : decode cX12_keep 263 = .ok (.iastore, 1) := by decide +kernel
theorem dX12_keep_264 : decode cX12_keep 264 = .ok (.iinc 2 1, 3) := by decide +kernel
theorem dX12_keep_267 : decode cX12_keep 267 = .ok (.goto (-33), 3) := by decide +kernel
