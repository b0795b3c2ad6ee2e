theorem dX11_can_26 : decode cX11_can 26 = .ok (.invokevirtual 83, 3) := by decide +kernel
theorem dX11_can_29 : decode cX11_can 29 = .ok (.istore_n 3, 1) := by decide +kernel
theorem dX11_can_30 : decode cX11_can 30 = .ok (.iload_n 2, 1) := by decide +kernel
theorem dX11_can_31 : decode cX11_can 31 = .ok (.ifCond .ne 8, 3) := by decide +kernel
theorem dX11_can_34 : decode cX11_can 34 = .ok (.iload_n 3, 1) := by decide +kernel
theorem dX11_can_35 : decode cX11_can 35 = .ok (.invokestatic 176, 3) := by decide +kernel
theorem dX11_can_38 : decode cX11_can 38 = .ok (.ireturn, 1) := by decide +kernel
theorem dX11_can_39 : decode cX11_can 39 = .ok (.iload_n 3, 1) := by decide +kernel
theorem dX11_can_40 : decode cX11_can 40 = .ok (.ifCond .ne 8, 3) := by decide +kernel
theorem dX11_can_43 : decode cX11_can 43 = .ok (.bipush (-5), 2) := by decide +kernel
theorem dX11_can_45 : decode cX11_can 45 = .ok (.goto 7, 3) := by decide +kernel
theorem dX11_can_48 : decode cX11_can 48 = .ok (.iload_n 3, 1) := by decide +kernel
theorem dX11_can_49 : decode cX11_can 49 = .ok (.invokestatic 207, 3) := by decide +kernel
theorem dX11_can_52 : decode cX11_can 52 = .ok (.ireturn, 1) := by decide +kernel
theorem dX11_odds_0 : decode cX11_odds 0 = .ok (.aload_n 0, 1) := by decide +kernel
theorem dX11_odds_1 : decode cX11_odds 1 = .ok (.getfield 14, 3) := by decide +kernel
theorem dX11_odds_4 : decode cX11_odds 4 = .ok (.iload_n 1, 1) := by decide +kernel
theorem dX11_odds_5 : decode cX11_odds 5 = .ok (.invokevirtual 65, 3) := by decide +kernel
theorem dX11_odds_8 : decode cX11_odds 8 = .ok (.ifCond .eq 11, 3) := by decide +kernel
theorem dX11_odds_11 : decode cX11_odds 11 = .ok (.iload_n 2, 1) := by decide +kernel
theorem dX11_odds_12 : decode cX11_odds 12 = .ok (.iconst 1, 1) := by decide +kernel
theorem dX11_odds_13 : decode cX11_odds 13 = .ok (.invokestatic 53, 3) := by decide +kernel
theorem dX11_odds_16 : decode cX11_odds 16 = .ok (.ifCond .ne 7, 3) := by decide +kernel
theorem dX11_odds_19 : decode cX11_odds 19 = .ok (.ldc2_w 210, 3) := by decide +kernel
theorem dX11_odds_22 : decode cX11_odds 22 = .ok (.lreturn, 1) := by decide +kernel
theorem dX11_odds_23 : decode cX11_odds 23 = .ok (.iconst 0, 1) := by decide +kernel
theorem dX11_odds_24 : decode cX11_odds 24 = .ok (.istore_n 3, 1) := by decide +kernel
theorem dX11_odds_25 : decode cX11_odds 25 = .ok (.iconst 0, 1) := by decide +kernel
theorem dX11_odds_26 : decode cX11_odds 26 = .ok (.istore 4, 2) := by decide +kernel
theorem dX11_odds_28 : decode cX11_odds 28 = .ok (.iload 4, 2) := by decide +kernel
theorem dX11_odds_30 : decode cX11_odds 30 = .ok (.bipush 9, 2) := by decide +kernel
theorem dX11_odds_32 : decode cX11_odds 32 = .ok (.if_icmp .gt 61, 3) := by decide +kernel
theorem dX11_odds_35 : decode cX11_odds 35 = .ok (.aload_n 0, 1) := by decide +kernel
theorem dX11_odds_36 : decode cX11_odds 36 = .ok (.getfield 21, 3) := by decide +kernel
theorem dX11_odds_39 : decode cX11_odds 39 = .ok (.aload_n 0, 1) := by decide +kernel
theorem dX11_odds_40 : decode cX11_odds 40 = .ok (.getfield 14, 3) := by decide +kernel
theorem dX11_odds_43 : decode cX11_odds 43 = .ok (.invokevirtual 162, 3) := by decide +kernel
theorem dX11_odds_46 : decode cX11_odds 46 = .ok (.aload_n 0, 1) := by decide +kernel
theorem dX11_odds_47 : decode cX11_odds 47 = .ok (.getfield 21, 3) := by decide +kernel
theorem dX11_odds_50 : decode cX11_odds 50 = .ok (.getfield 104, 3) := by decide +kernel
theorem dX11_odds_53 : decode cX11_odds 53 = .ok (.aload_n 0, 1) := by decide +kernel
theorem dX11_odds_54 : decode cX11_odds 54 = .ok (.getfield 14, 3) := by decide +kernel
theorem dX11_odds_57 : decode cX11_odds 57 = .ok (.getfield 143, 3) := by decide +kernel
theorem dX11_odds_60 : decode cX11_odds 60 = .ok (.iconst 4, 1) := by decide +kernel
theorem dX11_odds_61 : decode cX11_odds 61 = .ok (.irem, 1) := by decide +kernel
theorem dX11_odds_62 : decode cX11_odds 62 = .ok (.iload 4, 2) := by decide +kernel
theorem dX11_odds_64 : decode cX11_odds 64 = .ok (.iastore, 1) := by decide +kernel
theorem dX11_odds_65 : decode cX11_odds 65 = .ok (.aload_n 0, 1) := by decide +kernel
theorem dX11_odds_66 : decode cX11_odds 66 = .ok (.getfield 21, 3) := by decide +kernel
theorem dX11_odds_69 : decode cX11_odds 69 = .ok (.iconst 1, 1) := by decide +kernel
theorem dX11_odds_70 : decode cX11_odds 70 = .ok (.invokevirtual 158, 3) := by decide +kernel
theorem dX11_odds_73 : decode cX11_odds 73 = .ok (.aload_n 0, 1) := by decide +kernel
theorem dX11_odds_74 : decode cX11_odds 74 = .ok (.getfield 21, 3) := by decide +kernel
theorem dX11_odds_77 : decode cX11_odds 77 = .ok (.iload_n 1, 1) := by decide +kernel
theorem dX11_odds_78 : decode cX11_odds 78 = .ok (.invokevirtual 69, 3) := by decide +kernel
theorem dX11_odds_81 : decode cX11_odds 81 = .ok (.ifCond .le 6, 3) := by decide +kernel
theorem dX11_odds_84 : decode cX11_odds 84 = .ok (.iinc 3 1, 3) := by decide +kernel
theorem dX11_odds_87 : decode cX11_odds 87 = .ok (.iinc 4 1, 3) := by decide +kernel
theorem dX11_odds_90 : decode cX11_odds 90 = .ok (.goto (-62), 3) := by decide +kernel
theorem dX11_odds_93 : decode cX11_odds 93 = .ok (.iload_n 3, 1) := by decide +kernel
theorem dX11_odds_94 : decode cX11_odds 94 = .ok (.bipush 10, 2) := by decide +kernel
theorem dX11_odds_96 : decode cX11_odds 96 = .ok (.iload_n 2, 1) := by decide +kernel
theorem dX11_odds_97 : decode cX11_odds 97 = .ok (.invokestatic 212, 3) := by decide +kernel
theorem dX11_odds_100 : decode cX11_odds 100 = .ok (.lreturn, 1) := by decide +kernel
theorem dX11_mean_0 : decode cX11_mean 0 = .ok (.iconst 4, 1) := by decide +kernel
theorem dX11_mean_1 : decode cX11_mean 1 = .ok (.aload_n 0, 1) := by decide +kernel
theorem dX11_mean_2 : decode cX11_mean 2 = .ok (.getfield 14, 3) := by decide +kernel
theorem dX11_mean_5 : decode cX11_mean 5 = .ok (.invokevirtual 149, 3) := by decide +kernel
theorem dX11_mean_8 : decode cX11_mean 8 = .ok (.invokestatic 176, 3) := by decide +kernel
theorem dX11_mean_11 : decode cX11_mean 11 = .ok (.isub, 1) := by decide +kernel
theorem dX11_mean_12 : decode cX11_mean 12 = .ok (.istore_n 2, 1) := by decide +kernel
theorem dX11_mean_13 : decode cX11_mean 13 = .ok (.iload_n 1, 1) := by decide +kernel
theorem dX11_mean_14 : decode cX11_mean 14 = .ok (.iconst 1, 1) := by decide +kernel
theorem dX11_mean_15 : decode cX11_mean 15 = .ok (.invokestatic 53, 3) := by decide +kernel
theorem dX11_mean_18 : decode cX11_mean 18 = .ok (.ifCond .eq 7, 3) := by decide +kernel
theorem dX11_mean_21 : decode cX11_mean 21 = .ok (.iload_n 2, 1) := by decide +kernel
theorem dX11_mean_22 : decode cX11_mean 22 = .ok (.ifCond .ne 7, 3) := by decide +kernel
theorem dX11_mean_25 : decode cX11_mean 25 = .ok (.ldc2_w 210, 3) := by decide +kernel
theorem dX11_mean_28 : decode cX11_mean 28 = .ok (.lreturn, 1) := by decide +kernel
theorem dX11_mean_29 : decode cX11_mean 29 = .ok (.aload_n 0, 1) := by decide +kernel
theorem dX11_mean_30 : decode cX11_mean 30 = .ok (.getfield 14, 3) := by decide +kernel
theorem dX11_mean_33 : decode cX11_mean 33 = .ok (.invokevirtual 152, 3) := by decide +kernel
theorem dX11_mean_36 : decode cX11_mean 36 = .ok (.iload_n 2, 1) := by decide +kernel
theorem dX11_mean_37 : decode cX11_mean 37 = .ok (.iload_n 1, 1) := by decide +kernel
theorem dX11_mean_38 : decode cX11_mean 38 = .ok (.invokestatic 212, 3) := by decide +kernel
theorem dX11_mean_41 : decode cX11_mean 41 = .ok (.lreturn, 1) := by decide +kernel
theorem dX11_fitting_0 : decode cX11_fitting 0 = .ok (.iconst 0, 1) := by decide +kernel
theorem dX11_fitting_1 : decode cX11_fitting 1 = .ok (.istore 4, 2) := by decide +kernel
theorem dX11_fitting_3 : decode cX11_fitting 3 = .ok (.iconst 0, 1) := by decide +kernel
theorem dX11_fitting_4 : decode cX11_fitting 4 = .ok (.istore 5, 2) := by decide +kernel
theorem dX11_fitting_6 : decode cX11_fitting 6 = .ok (.iload 5, 2) := by decide +kernel
theorem dX11_fitting_8 : decode cX11_fitting 8 = .ok (.iload_n 3, 1) := by decide +kernel
theorem dX11_fitting_9 : decode cX11_fitting 9 = .ok (.if_icmp .gt 29, 3) := by decide +kernel
theorem dX11_fitting_12 : decode cX11_fitting 12 = .ok (.aload_n 0, 1) := by decide +kernel
theorem dX11_fitting_13 : decode cX11_fitting 13 = .ok (.iload_n 1, 1) := by decide +kernel
theorem dX11_fitting_14 : decode cX11_fitting 14 = .ok (.iload_n 2, 1) := by decide +kernel
theorem dX11_fitting_15 : decode cX11_fitting 15 = .ok (.iload 5, 2) := by decide +kernel
theorem dX11_fitting_17 : decode cX11_fitting 17 = .ok (.invokevirtual 216, 3) := by decide +kernel
theorem dX11_fitting_20 : decode cX11_fitting 20 = .ok (.ifCond .eq 12, 3) := by decide +kernel
theorem dX11_fitting_23 : decode cX11_fitting 23 = .ok (.iload 4, 2) := by decide +kernel
theorem dX11_fitting_25 : decode cX11_fitting 25 = .ok (.iconst 1, 1) := by decide +kernel
theorem dX11_fitting_26 : decode cX11_fitting 26 = .ok (.iload 5, 2) := by decide +kernel
theorem dX11_fitting_28 : decode cX11_fitting 28 = .ok (.ishl, 1) := by decide +kernel
theorem dX11_fitting_29 : decode cX11_fitting 29 = .ok (.ior, 1) := by decide +kernel
theorem dX11_fitting_30 : decode cX11_fitting 30 = .ok (.istore 4, 2) := by decide +kernel
theorem dX11_fitting_32 : decode cX11_fitting 32 = .ok (.iinc 5 1, 3) := by decide +kernel
theorem dX11_fitting_35 : decode cX11_fitting 35 = .ok (.goto (-29), 3) := by decide +kernel
theorem dX11_fitting_38 : decode cX11_fitting 38 = .ok (.iload 4, 2) := by decide +kernel
theorem dX11_fitting_40 : decode cX11_fitting 40 = .ok (.ireturn, 1) := by decide +kernel
theorem dX11_areMarksSo_0 : decode cX11_areMarksSo 0 = .ok (.iconst 0, 1) := by decide +kernel
theorem dX11_areMarksSo_1 : decode cX11_areMarksSo 1 = .ok (.istore 4, 2) := by decide +kernel
theorem dX11_areMarksSo_3 : decode cX11_areMarksSo 3 = .ok (.iload 4, 2) := by decide +kernel
theorem dX11_areMarksSo_5 : decode cX11_areMarksSo 5 = .ok (.aload_n 0, 1) := by decide +kernel
theorem dX11_areMarksSo_6 : decode cX11_areMarksSo 6 = .ok (.getfield 14, 3) := by decide +kernel
theorem dX11_areMarksSo_9 : decode cX11_areMarksSo 9 = .ok (.getfield 191, 3) := by decide +kernel
theorem dX11_areMarksSo_12 : decode cX11_areMarksSo 12 = .ok (.if_icmp .ge 36, 3) := by decide +kernel
theorem dX11_areMarksSo_15 : decode cX11_areMarksSo 15 = .ok (.aload_n 0, 1) := by decide +kernel
theorem dX11_areMarksSo_16 : decode cX11_areMarksSo 16 = .ok (.getfield 14, 3) := by decide +kernel
theorem dX11_areMarksSo_19 : decode cX11_areMarksSo 19 = .ok (.getfield 194, 3) := by decide +kernel
theorem dX11_areMarksSo_22 : decode cX11_areMarksSo 22 = .ok (.iload 4, 2) := by decide +kernel
theorem dX11_areMarksSo_24 : decode cX11_areMarksSo 24 = .ok (.iaload, 1) := by decide +kernel
theorem dX11_areMarksSo_25 : decode cX11_areMarksSo 25 = .ok (.iload_n 1, 1) := by decide +kernel
theorem dX11_areMarksSo_26 : decode cX11_areMarksSo 26 = .ok (.if_icmp .ne 16, 3) := by decide +kernel
theorem dX11_areMarksSo_29 : decode cX11_areMarksSo 29 = .ok (.aload_n 0, 1) := by decide +kernel
theorem dX11_areMarksSo_30 : decode cX11_areMarksSo 30 = .ok (.iload 4, 2) := by decide +kernel
theorem dX11_areMarksSo_32 : decode cX11_areMarksSo 32 = .ok (.iload_n 2, 1) := by decide +kernel
theorem dX11_areMarksSo_33 : decode cX11_areMarksSo 33 = .ok (.iload_n 3, 1) := by decide +kernel
theorem dX11_areMarksSo_34 : decode cX11_areMarksSo 34 = .ok (.invokevirtual 203, 3) := by decide +kernel
theorem dX11_areMarksSo_37 : decode cX11_areMarksSo 37 = .ok (.ifCond .ne 5, 3) := by decide +kernel
theorem dX11_areMarksSo_40 : decode cX11_areMarksSo 40 = .ok (.iconst 0, 1) := by decide +kernel
theorem dX11_areMarksSo_41 : decode cX11_areMarksSo 41 = .ok (.ireturn, 1) := by decide +kernel
theorem dX11_areMarksSo_42 : decode cX11_areMarksSo 42 = .ok (.iinc 4 1, 3) := by decide +kernel
theorem dX11_areMarksSo_45 : decode cX11_areMarksSo 45 = .ok (.goto (-42), 3) := by decide +kernel
theorem dX11_areMarksSo_48 : decode cX11_areMarksSo 48 = .ok (.iconst 1, 1) := by decide +kernel
theorem dX11_areMarksSo_49 : decode cX11_areMarksSo 49 = .ok (.ireturn, 1) := by decide +kernel
theorem dX11_isMarkSo_0 : decode cX11_isMarkSo 0 = .ok (.aload_n 0, 1) := by decide +kernel
theorem dX11_isMarkSo_1 : decode cX11_isMarkSo 1 = .ok (.getfield 14, 3) := by decide +kernel
theorem dX11_isMarkSo_4 : decode cX11_isMarkSo 4 = .ok (.getfield 194, 3) := by decide +kernel
theorem dX11_isMarkSo_7 : decode cX11_isMarkSo 7 = .ok (.iload_n 1, 1) := by decide +kernel
theorem dX11_isMarkSo_8 : decode cX11_isMarkSo 8 = .ok (.iaload, 1) := by decide +kernel
theorem dX11_isMarkSo_9 : decode cX11_isMarkSo 9 = .ok (.istore 4, 2) := by decide +kernel
theorem dX11_isMarkSo_11 : decode cX11_isMarkSo 11 = .ok (.aload_n 0, 1) := by decide +kernel
theorem dX11_isMarkSo_12 : decode cX11_isMarkSo 12 = .ok (.getfield 21, 3) := by decide +kernel
theorem dX11_isMarkSo_15 : decode cX11_isMarkSo 15 = .ok (.aload_n 0, 1) := by decide +kernel
theorem dX11_isMarkSo_16 : decode cX11_isMarkSo 16 = .ok (.getfield 14, 3) := by decide +kernel
theorem dX11_isMarkSo_19 : decode cX11_isMarkSo 19 = .ok (.invokevirtual 162, 3) := by decide +kernel
theorem dX11_isMarkSo_22 : decode cX11_isMarkSo 22 = .ok (.aload_n 0, 1) := by decide +kernel
theorem dX11_isMarkSo_23 : decode cX11_isMarkSo 23 = .ok (.getfield 21, 3) := by decide +kernel
theorem dX11_isMarkSo_26 : decode cX11_isMarkSo 26 = .ok (.getfield 87, 3) := by decide +kernel
theorem dX11_isMarkSo_29 : decode cX11_isMarkSo 29 = .ok (.iload 4, 2) := by decide +kernel
theorem dX11_isMarkSo_31 : decode cX11_isMarkSo 31 = .ok (.aaload, 1) := by decide +kernel
theorem dX11_isMarkSo_32 : decode cX11_isMarkSo 32 = .ok (.iload_n 2, 1) := by decide +kernel
theorem dX11_isMarkSo_33 : decode cX11_isMarkSo 33 = .ok (.iload_n 3, 1) := by decide +kernel
theorem dX11_isMarkSo_34 : decode cX11_isMarkSo 34 = .ok (.iastore, 1) := by decide +kernel
theorem dX11_isMarkSo_35 : decode cX11_isMarkSo 35 = .ok (.aload_n 0, 1) := by decide +kernel
theorem dX11_isMarkSo_36 : decode cX11_isMarkSo 36 = .ok (.getfield 21, 3) := by decide +kernel
theorem dX11_isMarkSo_39 : decode cX11_isMarkSo 39 = .ok (.aload_n 0, 1) := by decide +kernel
theorem dX11_isMarkSo_40 : decode cX11_isMarkSo 40 = .ok (.getfield 14, 3) := by decide +kernel
theorem dX11_isMarkSo_43 : decode cX11_isMarkSo 43 = .ok (.getfield 197, 3) := by decide +kernel
theorem dX11_isMarkSo_46 : decode cX11_isMarkSo 46 = .ok (.iload_n 1, 1) := by decide +kernel
theorem dX11_isMarkSo_47 : decode cX11_isMarkSo 47 = .ok (.iaload, 1) := by decide +kernel
theorem dX11_isMarkSo_48 : decode cX11_isMarkSo 48 = .ok (.invokevirtual 158, 3) := by decide +kernel
theorem dX11_isMarkSo_51 : decode cX11_isMarkSo 51 = .ok (.iconst 0, 1) := by decide +kernel
theorem dX11_isMarkSo_52 : decode cX11_isMarkSo 52 = .ok (.aload_n 0, 1) := by decide +kernel
theorem dX11_isMarkSo_53 : decode cX11_isMarkSo 53 = .ok (.getfield 21, 3) := by decide +kernel
theorem dX11_isMarkSo_56 : decode cX11_isMarkSo 56 = .ok (.iload 4, 2) := by decide +kernel
theorem dX11_isMarkSo_58 : decode cX11_isMarkSo 58 = .ok (.invokevirtual 69, 3) := by decide +kernel
theorem dX11_isMarkSo_61 : decode cX11_isMarkSo 61 = .ok (.invokestatic 219, 3) := by decide +kernel
theorem dX11_isMarkSo_64 : decode cX11_isMarkSo 64 = .ok (.aload_n 0, 1) := by decide +kernel
theorem dX11_isMarkSo_65 : decode cX11_isMarkSo 65 = .ok (.getfield 14, 3) := by decide +kernel
theorem dX11_isMarkSo_68 : decode cX11_isMarkSo 68 = .ok (.getfield 200, 3) := by decide +kernel
theorem dX11_isMarkSo_71 : decode cX11_isMarkSo 71 = .ok (.iload_n 1, 1) := by decide +kernel
theorem dX11_isMarkSo_72 : decode cX11_isMarkSo 72 = .ok (.iaload, 1) := by decide +kernel
theorem dX11_isMarkSo_73 : decode cX11_isMarkSo 73 = .ok (.if_icmp .ne 7, 3) := by decide +kernel
theorem dX11_isMarkSo_76 : decode cX11_isMarkSo 76 = .ok (.iconst 1, 1) := by decide +kernel
theorem dX11_isMarkSo_77 : decode cX11_isMarkSo 77 = .ok (.goto 4, 3) := by decide +kernel
theorem dX11_isMarkSo_80 : decode cX11_isMarkSo 80 = .ok (.iconst 0, 1) := by decide +kernel
theorem dX11_isMarkSo_81 : decode cX11_isMarkSo 81 = .ok (.ireturn, 1) := by decide +kernel
theorem dX11_inLowestTerms_0 : decode cX11_inLowestTerms 0 = .ok (.iload_n 1, 1) := by decide +kernel
theorem dX11_inLowestTerms_1 : decode cX11_inLowestTerms 1 = .ok (.istore_n 3, 1) := by decide +kernel
theorem dX11_inLowestTerms_2 : decode cX11_inLowestTerms 2 = .ok (.iload_n 0, 1) := by decide +kernel
theorem dX11_inLowestTerms_3 : decode cX11_inLowestTerms 3 = .ok (.istore 4, 2) := by decide +kernel
theorem dX11_inLowestTerms_5 : decode cX11_inLowestTerms 5 = .ok (.iconst 0, 1) := by decide +kernel
theorem dX11_inLowestTerms_6 : decode cX11_inLowestTerms 6 = .ok (.istore 5, 2) := by decide +kernel
theorem dX11_inLowestTerms_8 : decode cX11_inLowestTerms 8 = .ok (.iload 5, 2) := by decide +kernel
theorem dX11_inLowestTerms_10 : decode cX11_inLowestTerms 10 = .ok (.bipush 64, 2) := by decide +kernel
theorem dX11_inLowestTerms_12 : decode cX11_inLowestTerms 12 = .ok (.if_icmp .ge 27, 3) := by decide +kernel
theorem dX11_inLowestTerms_15 : decode cX11_inLowestTerms 15 = .ok (.iload 4, 2) := by decide +kernel
theorem dX11_inLowestTerms_17 : decode cX11_inLowestTerms 17 = .ok (.ifCond .eq 22, 3) := by decide +kernel
theorem dX11_inLowestTerms_20 : decode cX11_inLowestTerms 20 = .ok (.iload_n 3, 1) := by decide +kernel
theorem dX11_inLowestTerms_21 : decode cX11_inLowestTerms 21 = .ok (.iload 4, 2) := by decide +kernel
theorem dX11_inLowestTerms_23 : decode cX11_inLowestTerms 23 = .ok (.irem, 1) := by decide +kernel
theorem dX11_inLowestTerms_24 : decode cX11_inLowestTerms 24 = .ok (.istore 6, 2) := by decide +kernel
theorem dX11_inLowestTerms_26 : decode cX11_inLowestTerms 26 = .ok (.iload 4, 2) := by decide +kernel
theorem dX11_inLowestTerms_28 : decode cX11_inLowestTerms 28 = .ok (.istore_n 3, 1) := by decide +kernel
theorem dX11_inLowestTerms_29 : decode cX11_inLowestTerms 29 = .ok (.iload 6, 2) := by decide +kernel
theorem dX11_inLowestTerms_31 : decode cX11_inLowestTerms 31 = .ok (.istore 4, 2) := by decide +kernel
theorem dX11_inLowestTerms_33 : decode cX11_inLowestTerms 33 = .ok (.iinc 5 1, 3) := by decide +kernel
theorem dX11_inLowestTerms_36 : decode cX11_inLowestTerms 36 = .ok (.goto (-28), 3) := by decide +kernel
theorem dX11_inLowestTerms_39 : decode cX11_inLowestTerms 39 = .ok (.iload_n 3, 1) := by decide +kernel
theorem dX11_inLowestTerms_40 : decode cX11_inLowestTerms 40 = .ok (.ifCond .ne 7, 3) := by decide +kernel
theorem dX11_inLowestTerms_43 : decode cX11_inLowestTerms 43 = .ok (.ldc2_w 210, 3) := by decide +kernel
theorem dX11_inLowestTerms_46 : decode cX11_inLowestTerms 46 = .ok (.lreturn, 1) := by decide +kernel
theorem dX11_inLowestTerms_47 : decode cX11_inLowestTerms 47 = .ok (.iload_n 2, 1) := by decide +kernel
theorem dX11_inLowestTerms_48 : decode cX11_inLowestTerms 48 = .ok (.ifCond .ne 10, 3) := by decide +kernel
theorem dX11_inLowestTerms_51 : decode cX11_inLowestTerms 51 = .ok (.iload_n 0, 1) := by decide +kernel
theorem dX11_inLowestTerms_52 : decode cX11_inLowestTerms 52 = .ok (.iload_n 3, 1) := by decide +kernel
theorem dX11_inLowestTerms_53 : decode cX11_inLowestTerms 53 = .ok (.idiv, 1) := by decide +kernel
theorem dX11_inLowestTerms_54 : decode cX11_inLowestTerms 54 = .ok (.i2l, 1) := by decide +kernel
theorem dX11_inLowestTerms_55 : decode cX11_inLowestTerms 55 = .ok (.goto 7, 3) := by decide +kernel
theorem dX11_inLowestTerms_58 : decode cX11_inLowestTerms 58 = .ok (.iload_n 1, 1) := by decide +kernel
theorem dX11_inLowestTerms_59 : decode cX11_inLowestTerms 59 = .ok (.iload_n 3, 1) := by decide +kernel
theorem dX11_inLowestTerms_60 : decode cX11_inLowestTerms 60 = .ok (.idiv, 1) := by decide +kernel
theorem dX11_inLowestTerms_61 : decode cX11_inLowestTerms 61 = .ok (.i2l, 1) := by decide +kernel
theorem dX11_inLowestTerms_62 : decode cX11_inLowestTerms 62 = .ok (.lreturn, 1) := by decide +kernel
theorem dX11_plan_0 : decode cX11_plan 0 = .ok (.iload_n 1, 1) := by decide +kernel
theorem dX11_plan_1 : decode cX11_plan 1 = .ok (.iconst (-1), 1) := by decide +kernel
theorem dX11_plan_2 : decode cX11_plan 2 = .ok (.if_icmp .ne 13, 3) := by decide +kernel
theorem dX11_plan_5 : decode cX11_plan 5 = .ok (.aload_n 0, 1) := by decide +kernel
theorem dX11_plan_6 : decode cX11_plan 6 = .ok (.getfield 14, 3) := by decide +kernel
theorem dX11_plan_9 : decode cX11_plan 9 = .ok (.iconst 0, 1) := by decide +kernel
theorem dX11_plan_10 : decode cX11_plan 10 = .ok (.putfield 222, 3) := by decide +kernel
theorem dX11_plan_13 : decode cX11_plan 13 = .ok (.iconst 0, 1) := by decide +kernel
theorem dX11_plan_14 : decode cX11_plan 14 = .ok (.ireturn, 1) := by decide +kernel
theorem dX11_plan_15 : decode cX11_plan 15 = .ok (.iload_n 1, 1) := by decide +kernel
theorem dX11_plan_16 : decode cX11_plan 16 = .ok (.iconst 3, 1) := by decide +kernel
theorem dX11_plan_17 : decode cX11_plan 17 = .ok (.invokestatic 53, 3) := by decide +kernel
theorem dX11_plan_20 : decode cX11_plan 20 = .ok (.ifCond .eq 18, 3) := by decide +kernel
theorem dX11_plan_23 : decode cX11_plan 23 = .ok (.iload_n 1, 1) := by decide +kernel
theorem dX11_plan_24 : decode cX11_plan 24 = .ok (.ifCond .eq 16, 3) := by decide +kernel
theorem dX11_plan_27 : decode cX11_plan 27 = .ok (.aload_n 0, 1) := by decide +kernel
theorem dX11_plan_28 : decode cX11_plan 28 = .ok (.getfield 14, 3) := by decide +kernel
theorem dX11_plan_31 : decode cX11_plan 31 = .ok (.iload_n 2, 1) := by decide +kernel
theorem dX11_plan_32 : decode cX11_plan 32 = .ok (.invokevirtual 65, 3) := by decide +kernel
theorem dX11_plan_35 : decode cX11_plan 35 = .ok (.ifCond .ne 5, 3) := by decide +kernel
theorem dX11_plan_38 : decode cX11_plan 38 = .ok (.iconst (-1), 1) := by decide +kernel
theorem dX11_plan_39 : decode cX11_plan 39 = .ok (.ireturn, 1) := by decide +kernel
theorem dX11_plan_40 : decode cX11_plan 40 = .ok (.aload_n 0, 1) := by decide +kernel
theorem dX11_plan_41 : decode cX11_plan 41 = .ok (.getfield 14, 3) := by decide +kernel
theorem dX11_plan_44 : decode cX11_plan 44 = .ok (.getfield 222, 3) := by decide +kernel
theorem dX11_plan_47 : decode cX11_plan 47 = .ok (.bipush 10, 2) := by decide +kernel
theorem dX11_plan_49 : decode cX11_plan 49 = .ok (.if_icmp .lt 6, 3) := by decide +kernel
theorem dX11_plan_52 : decode cX11_plan 52 = .ok (.bipush (-4), 2) := by decide +kernel
theorem dX11_plan_54 : decode cX11_plan 54 = .ok (.ireturn, 1) := by decide +kernel
theorem dX11_plan_55 : decode cX11_plan 55 = .ok (.aload_n 0, 1) := by decide +kernel
theorem dX11_plan_56 : decode cX11_plan 56 = .ok (.getfield 14, 3) := by decide +kernel
theorem dX11_plan_59 : decode cX11_plan 59 = .ok (.getfield 225, 3) := by decide +kernel
theorem dX11_plan_62 : decode cX11_plan 62 = .ok (.aload_n 0, 1) := by decide +kernel
theorem dX11_plan_63 : decode cX11_plan 63 = .ok (.getfield 14, 3) := by decide +kernel
theorem dX11_plan_66 : decode cX11_plan 66 = .ok (.getfield 222, 3) := by decide +kernel
theorem dX11_plan_69 : decode cX11_plan 69 = .ok (.iload_n 1, 1) := by decide +kernel
theorem dX11_plan_70 : decode cX11_plan 70 = .ok (.iastore, 1) := by decide +kernel
theorem dX11_plan_71 : decode cX11_plan 71 = .ok (.aload_n 0, 1) := by decide +kernel
theorem dX11_plan_72 : decode cX11_plan 72 = .ok (.getfield 14, 3) := by decide +kernel
theorem dX11_plan_75 : decode cX11_plan 75 = .ok (.getfield 228, 3) := by decide +kernel
theorem dX11_plan_78 : decode cX11_plan 78 = .ok (.aload_n 0, 1) := by decide +kernel
theorem dX11_plan_79 : decode cX11_plan 79 = .ok (.getfield 14, 3) := by decide +kernel
theorem dX11_plan_82 : decode cX11_plan 82 = .ok (.getfield 222, 3) := by decide +kernel
theorem dX11_plan_85 : decode cX11_plan 85 = .ok (.iload_n 1, 1) := by decide +kernel
theorem dX11_plan_86 : decode cX11_plan 86 = .ok (.ifCond .ne 7, 3) := by decide +kernel
theorem dX11_plan_89 : decode cX11_plan 89 = .ok (.iconst 0, 1) := by decide +kernel
theorem dX11_plan_90 : decode cX11_plan 90 = .ok (.goto 4, 3) := by decide +kernel
theorem dX11_plan_93 : decode cX11_plan 93 = .ok (.iload_n 2, 1) := by decide +kernel
theorem dX11_plan_94 : decode cX11_plan 94 = .ok (.iastore, 1) := by decide +kernel
theorem dX11_plan_95 : decode cX11_plan 95 = .ok (.aload_n 0, 1) := by decide +kernel
theorem dX11_plan_96 : decode cX11_plan 96 = .ok (.getfield 14, 3) := by decide +kernel
theorem dX11_plan_99 : decode cX11_plan 99 = .ok (.dup, 1) := by decide +kernel
theorem dX11_plan_100 : decode cX11_plan 100 = .ok (.getfield 222, 3) := by decide +kernel
theorem dX11_plan_103 : decode cX11_plan 103 = .ok (.iconst 1, 1) := by decide +kernel
theorem dX11_plan_104 : decode cX11_plan 104 = .ok (.iadd, 1) := by decide +kernel
theorem dX11_plan_105 : decode cX11_plan 105 = .ok (.putfield 222, 3) := by decide +kernel
theorem dX11_plan_108 : decode cX11_plan 108 = .ok (.aload_n 0, 1) := by decide +kernel
theorem dX11_plan_109 : decode cX11_plan 109 = .ok (.getfield 14, 3) := by decide +kernel
theorem dX11_plan_112 : decode cX11_plan 112 = .ok (.getfield 222, 3) := by decide +kernel
theorem dX11_plan_115 : decode cX11_plan 115 = .ok (.ireturn, 1) := by decide +kernel
theorem dX11_ends_0 : decode cX11_ends 0 = .ok (.iload_n 1, 1) := by decide +kernel
theorem dX11_ends_1 : decode cX11_ends 1 = .ok (.iconst 1, 1) := by decide +kernel
theorem dX11_ends_2 : decode cX11_ends 2 = .ok (.invokestatic 53, 3) := by decide +kernel
theorem dX11_ends_5 : decode cX11_ends 5 = .ok (.ifCond .ne 5, 3) := by decide +kernel
theorem dX11_ends_8 : decode cX11_ends 8 = .ok (.iconst (-1), 1) := by decide +kernel
theorem dX11_ends_9 : decode cX11_ends 9 = .ok (.ireturn, 1) := by decide +kernel
theorem dX11_ends_10 : decode cX11_ends 10 = .ok (.aload_n 0, 1) := by decide +kernel
theorem dX11_ends_11 : decode cX11_ends 11 = .ok (.getfield 21, 3) := by decide +kernel
theorem dX11_ends_14 : decode cX11_ends 14 = .ok (.aload_n 0, 1) := by decide +kernel
theorem dX11_ends_15 : decode cX11_ends 15 = .ok (.getfield 14, 3) := by decide +kernel
theorem dX11_ends_18 : decode cX11_ends 18 = .ok (.invokevirtual 162, 3) := by decide +kernel
theorem dX11_ends_21 : decode cX11_ends 21 = .ok (.iconst 0, 1) := by decide +kernel
theorem dX11_ends_22 : decode cX11_ends 22 = .ok (.istore_n 2, 1) := by decide +kernel
theorem dX11_ends_23 : decode cX11_ends 23 = .ok (.iload_n 2, 1) := by decide +kernel
theorem dX11_ends_24 : decode cX11_ends 24 = .ok (.aload_n 0, 1) := by decide +kernel
theorem dX11_ends_25 : decode cX11_ends 25 = .ok (.getfield 14, 3) := by decide +kernel
theorem dX11_ends_28 : decode cX11_ends 28 = .ok (.getfield 222, 3) := by decide +kernel
theorem dX11_ends_31 : decode cX11_ends 31 = .ok (.if_icmp .ge 31, 3) := by decide +kernel
theorem dX11_ends_34 : decode cX11_ends 34 = .ok (.aload_n 0, 1) := by decide +kernel
theorem dX11_ends_35 : decode cX11_ends 35 = .ok (.aload_n 0, 1) := by decide +kernel
theorem dX11_ends_36 : decode cX11_ends 36 = .ok (.getfield 14, 3) := by decide +kernel
theorem dX11_ends_39 : decode cX11_ends 39 = .ok (.getfield 225, 3) := by decide +kernel
theorem dX11_ends_42 : decode cX11_ends 42 = .ok (.iload_n 2, 1) := by decide +kernel
theorem dX11_ends_43 : decode cX11_ends 43 = .ok (.iaload, 1) := by decide +kernel
theorem dX11_ends_44 : decode cX11_ends 44 = .ok (.aload_n 0, 1) := by decide +kernel
theorem dX11_ends_45 : decode cX11_ends 45 = .ok (.getfield 14, 3) := by decide +kernel
theorem dX11_ends_48 : decode cX11_ends 48 = .ok (.getfield 228, 3) := by decide +kernel
theorem dX11_ends_51 : decode cX11_ends 51 = .ok (.iload_n 2, 1) := by decide +kernel
theorem dX11_ends_52 : decode cX11_ends 52 = .ok (.iaload, 1) := by decide +kernel
theorem dX11_ends_53 : decode cX11_ends 53 = .ok (.invokevirtual 231, 3) := by decide +kernel
theorem dX11_ends_56 : decode cX11_ends 56 = .ok (.iinc 2 1, 3) := by decide +kernel
theorem dX11_ends_59 : decode cX11_ends 59 = .ok (.goto (-36), 3) := by decide +kernel
theorem dX11_ends_62 : decode cX11_ends 62 = .ok (.iload_n 1, 1) := by decide +kernel
theorem dX11_ends_63 : decode cX11_ends 63 = .ok (.ifCond .ne 13, 3) := by decide +kernel
theorem dX11_ends_66 : decode cX11_ends 66 = .ok (.aload_n 0, 1) := by decide +kernel
theorem dX11_ends_67 : decode cX11_ends 67 = .ok (.getfield 21, 3) := by decide +kernel
theorem dX11_ends_70 : decode cX11_ends 70 = .ok (.invokevirtual 152, 3) := by decide +kernel
theorem dX11_ends_73 : decode cX11_ends 73 = .ok (.goto 11, 3) := by decide +kernel
theorem dX11_ends_76 : decode cX11_ends 76 = .ok (.aload_n 0, 1) := by decide +kernel
theorem dX11_ends_77 : decode cX11_ends 77 = .ok (.getfield 21, 3) := by decide +kernel
theorem dX11_ends_80 : decode cX11_ends 80 = .ok (.iconst 2, 1) := by decide +kernel
theorem dX11_ends_81 : decode cX11_ends 81 = .ok (.invokevirtual 155, 3) := by decide +kernel
theorem dX11_ends_84 : decode cX11_ends 84 = .ok (.ireturn, 1) := by decide +kernel
theorem dX11_tryPlanned_0 : decode cX11_tryPlanned 0 = .ok (.iload_n 1, 1) := by decide +kernel
theorem dX11_tryPlanned_1 : decode cX11_tryPlanned 1 = .ok (.ifCond .ne 14, 3) := by decide +kernel
theorem dX11_tryPlanned_4 : decode cX11_tryPlanned 4 = .ok (.aload_n 0, 1) := by decide +kernel
theorem dX11_tryPlanned_5 : decode cX11_tryPlanned 5 = .ok (.getfield 21, 3) := by decide +kernel
theorem dX11_tryPlanned_8 : decode cX11_tryPlanned 8 = .ok (.iconst 1, 1) := by decide +kernel
theorem dX11_tryPlanned_9 : decode cX11_tryPlanned 9 = .ok (.invokevirtual 158, 3) := by decide +kernel
theorem dX11_tryPlanned_12 : decode cX11_tryPlanned 12 = .ok (.goto 68, 3) := by decide +kernel
theorem dX11_tryPlanned_15 : decode cX11_tryPlanned 15 = .ok (.iload_n 1, 1) := by decide +kernel
theorem dX11_tryPlanned_16 : decode cX11_tryPlanned 16 = .ok (.iconst 2, 1) := by decide +kernel
theorem dX11_tryPlanned_17 : decode cX11_tryPlanned 17 = .ok (.if_icmp .ne 18, 3) := by decide +kernel
theorem dX11_tryPlanned_20 : decode cX11_tryPlanned 20 = .ok (.aload_n 0, 1) := by decide +kernel
theorem dX11_tryPlanned_21 : decode cX11_tryPlanned 21 = .ok (.getfield 21, 3) := by decide +kernel
theorem dX11_tryPlanned_24 : decode cX11_tryPlanned 24 = .ok (.getfield 87, 3) := by decide +kernel
theorem dX11_tryPlanned_27 : decode cX11_tryPlanned 27 = .ok (.iload_n 2, 1) := by decide +kernel
theorem dX11_tryPlanned_28 : decode cX11_tryPlanned 28 = .ok (.aaload, 1) := by decide +kernel
theorem dX11_tryPlanned_29 : decode cX11_tryPlanned 29 = .ok (.iconst 4, 1) := by decide +kernel
theorem dX11_tryPlanned_30 : decode cX11_tryPlanned 30 = .ok (.iconst 0, 1) := by decide +kernel
theorem dX11_tryPlanned_31 : decode cX11_tryPlanned 31 = .ok (.iastore, 1) := by decide +kernel
theorem dX11_tryPlanned_32 : decode cX11_tryPlanned 32 = .ok (.goto 48, 3) := by decide +kernel
theorem dX11_tryPlanned_35 : decode cX11_tryPlanned 35 = .ok (.iload_n 1, 1) := by decide +kernel
theorem dX11_tryPlanned_36 : decode cX11_tryPlanned 36 = .ok (.iconst 3, 1) := by decide +kernel
theorem dX11_tryPlanned_37 : decode cX11_tryPlanned 37 = .ok (.if_icmp .ne 18, 3) := by decide +kernel
theorem dX11_tryPlanned_40 : decode cX11_tryPlanned 40 = .ok (.aload_n 0, 1) := by decide +kernel
theorem dX11_tryPlanned_41 : decode cX11_tryPlanned 41 = .ok (.getfield 21, 3) := by decide +kernel
theorem dX11_tryPlanned_44 : decode cX11_tryPlanned 44 = .ok (.getfield 87, 3) := by decide +kernel
theorem dX11_tryPlanned_47 : decode cX11_tryPlanned 47 = .ok (.iload_n 2, 1) := by decide +kernel
theorem dX11_tryPlanned_48 : decode cX11_tryPlanned 48 = .ok (.aaload, 1) := by decide +kernel
theorem dX11_tryPlanned_49 : decode cX11_tryPlanned 49 = .ok (.iconst 5, 1) := by decide +kernel
theorem dX11_tryPlanned_50 : decode cX11_tryPlanned 50 = .ok (.iconst 0, 1) := by decide +kernel
theorem dX11_tryPlanned_51 : decode cX11_tryPlanned 51 = .ok (.iastore, 1) := by decide +kernel
theorem dX11_tryPlanned_52 : decode cX11_tryPlanned 52 = .ok (.goto 28, 3) := by decide +kernel
theorem dX11_tryPlanned_55 : decode cX11_tryPlanned 55 = .ok (.iload_n 1, 1) := by decide +kernel
theorem dX11_tryPlanned_56 : decode cX11_tryPlanned 56 = .ok (.iconst 1, 1) := by decide +kernel
theorem dX11_tryPlanned_57 : decode cX11_tryPlanned 57 = .ok (.if_icmp .ne 23, 3) := by decide +kernel
theorem dX11_tryPlanned_60 : decode cX11_tryPlanned 60 = .ok (.aload_n 0, 1) := by decide +kernel
theorem dX11_tryPlanned_61 : decode cX11_tryPlanned 61 = .ok (.getfield 21, 3) := by decide +kernel
theorem dX11_tryPlanned_64 : decode cX11_tryPlanned 64 = .ok (.iload_n 2, 1) := by decide +kernel
theorem dX11_tryPlanned_65 : decode cX11_tryPlanned 65 = .ok (.invokevirtual 95, 3) := by decide +kernel
theorem dX11_tryPlanned_68 : decode cX11_tryPlanned 68 = .ok (.ifCond .eq 12, 3) := by decide +kernel
theorem dX11_tryPlanned_71 : decode cX11_tryPlanned 71 = .ok (.aload_n 0, 1) := by decide +kernel
theorem dX11_tryPlanned_72 : decode cX11_tryPlanned 72 = .ok (.getfield 21, 3) := by decide +kernel
theorem dX11_tryPlanned_75 : decode cX11_tryPlanned 75 = .ok (.iload_n 2, 1) := by decide +kernel
theorem dX11_tryPlanned_76 : decode cX11_tryPlanned 76 = .ok (.invokevirtual 98, 3) := by decide +kernel
theorem dX11_tryPlanned_79 : decode cX11_tryPlanned 79 = .ok (.pop, 1) := by decide +kernel
theorem dX11_tryPlanned_80 : decode cX11_tryPlanned 80 = .ok (.return_, 1) := by decide +kernel
theorem dX11_book_0 : decode cX11_book 0 = .ok (.iload_n 1, 1) := by decide +kernel
theorem dX11_book_1 : decode cX11_book 1 = .ok (.iconst (-1), 1) := by decide +kernel
theorem dX11_book_2 : decode cX11_book 2 = .ok (.if_icmp .ne 13, 3) := by decide +kernel
theorem dX11_book_5 : decode cX11_book 5 = .ok (.aload_n 0, 1) := by decide +kernel
theorem dX11_book_6 : decode cX11_book 6 = .ok (.getfield 14, 3) := by decide +kernel
theorem dX11_book_9 : decode cX11_book 9 = .ok (.iconst 0, 1) := by decide +kernel
theorem dX11_book_10 : decode cX11_book 10 = .ok (.putfield 234, 3) := by decide +kernel
theorem dX11_book_13 : decode cX11_book 13 = .ok (.iconst 0, 1) := by decide +kernel
theorem dX11_book_14 : decode cX11_book 14 = .ok (.ireturn, 1) := by decide +kernel
theorem dX11_book_15 : decode cX11_book 15 = .ok (.aload_n 0, 1) := by decide +kernel
theorem dX11_book_16 : decode cX11_book 16 = .ok (.getfield 14, 3) := by decide +kernel
theorem dX11_book_19 : decode cX11_book 19 = .ok (.iload_n 1, 1) := by decide +kernel
theorem dX11_book_20 : decode cX11_book 20 = .ok (.invokevirtual 65, 3) := by decide +kernel
theorem dX11_book_23 : decode cX11_book 23 = .ok (.ifCond .ne 5, 3) := by decide +kernel
theorem dX11_book_26 : decode cX11_book 26 = .ok (.iconst (-1), 1) := by decide +kernel
theorem dX11_book_27 : decode cX11_book 27 = .ok (.ireturn, 1) := by decide +kernel
theorem dX11_book_28 : decode cX11_book 28 = .ok (.iload_n 2, 1) := by decide +kernel
theorem dX11_book_29 : decode cX11_book 29 = .ok (.bipush 99, 2) := by decide +kernel
theorem dX11_book_31 : decode cX11_book 31 = .ok (.invokestatic 53, 3) := by decide +kernel
theorem dX11_book_34 : decode cX11_book 34 = .ok (.ifCond .ne 6, 3) := by decide +kernel
theorem dX11_book_37 : decode cX11_book 37 = .ok (.bipush (-2), 2) := by decide +kernel
theorem dX11_book_39 : decode cX11_book 39 = .ok (.ireturn, 1) := by decide +kernel
theorem dX11_book_40 : decode cX11_book 40 = .ok (.aload_n 0, 1) := by decide +kernel
theorem dX11_book_41 : decode cX11_book 41 = .ok (.getfield 14, 3) := by decide +kernel
theorem dX11_book_44 : decode cX11_book 44 = .ok (.getfield 234, 3) := by decide +kernel
theorem dX11_book_47 : decode cX11_book 47 = .ok (.bipush 8, 2) := by decide +kernel
theorem dX11_book_49 : decode cX11_book 49 = .ok (.if_icmp .lt 6, 3) := by decide +kernel
theorem dX11_book_52 : decode cX11_book 52 = .ok (.bipush (-4), 2) := by decide +kernel
theorem dX11_book_54 : decode cX11_book 54 = .ok (.ireturn, 1) := by decide +kernel
theorem dX11_book_55 : decode cX11_book 55 = .ok (.aload_n 0, 1) := by decide +kernel
theorem dX11_book_56 : decode cX11_book 56 = .ok (.getfield 14, 3) := by decide +kernel
theorem dX11_book_59 : decode cX11_book 59 = .ok (.getfield 237, 3) := by decide +kernel
theorem dX11_book_62 : decode cX11_book 62 = .ok (.aload_n 0, 1) := by decide +kernel
theorem dX11_book_63 : decode cX11_book 63 = .ok (.getfield 14, 3) := by decide +kernel
theorem dX11_book_66 : decode cX11_book 66 = .ok (.getfield 234, 3) := by decide +kernel
theorem dX11_book_69 : decode cX11_book 69 = .ok (.iload_n 1, 1) := by decide +kernel
theorem dX11_book_70 : decode cX11_book 70 = .ok (.iastore, 1) := by decide +kernel
theorem dX11_book_71 : decode cX11_book 71 = .ok (.aload_n 0, 1) := by decide +kernel
theorem dX11_book_72 : decode cX11_book 72 = .ok (.getfield 14, 3) := by decide +kernel
theorem dX11_book_75 : decode cX11_book 75 = .ok (.getfield 240, 3) := by decide +kernel
theorem dX11_book_78 : decode cX11_book 78 = .ok (.aload_n 0, 1) := by decide +kernel
theorem dX11_book_79 : decode cX11_book 79 = .ok (.getfield 14, 3) := by decide +kernel
theorem dX11_book_82 : decode cX11_book 82 = .ok (.getfield 234, 3) := by decide +kernel
theorem dX11_book_85 : decode cX11_book 85 = .ok (.iload_n 2, 1) := by decide +kernel
theorem dX11_book_86 : decode cX11_book 86 = .ok (.iastore, 1) := by decide +kernel
theorem dX11_book_87 : decode cX11_book 87 = .ok (.aload_n 0, 1) := by decide +kernel
theorem dX11_book_88 : decode cX11_book 88 = .ok (.getfield 14, 3) := by decide +kernel
theorem dX11_book_91 : decode cX11_book 91 = .ok (.dup, 1) := by decide +kernel
theorem dX11_book_92 : decode cX11_book 92 = .ok (.getfield 234, 3) := by decide +kernel
theorem dX11_book_95 : decode cX11_book 95 = .ok (.iconst 1, 1) := by decide +kernel
theorem dX11_book_96 : decode cX11_book 96 = .ok (.iadd, 1) := by decide +kernel
theorem dX11_book_97 : decode cX11_book 97 = .ok (.putfield 234, 3) := by decide +kernel
theorem dX11_book_100 : decode cX11_book 100 = .ok (.aload_n 0, 1) := by decide +kernel
theorem dX11_book_101 : decode cX11_book 101 = .ok (.getfield 14, 3) := by decide +kernel
theorem dX11_book_104 : decode cX11_book 104 = .ok (.getfield 234, 3) := by decide +kernel
theorem dX11_book_107 : decode cX11_book 107 = .ok (.ireturn, 1) := by decide +kernel
theorem dX11_looked_0 : decode cX11_looked 0 = .ok (.iconst 0, 1) := by decide +kernel
theorem dX11_looked_1 : decode cX11_looked 1 = .ok (.istore_n 1, 1) := by decide +kernel
theorem dX11_looked_2 : decode cX11_looked 2 = .ok (.iload_n 1, 1) := by decide +kernel
theorem dX11_looked_3 : decode cX11_looked 3 = .ok (.aload_n 0, 1) := by decide +kernel
theorem dX11_looked_4 : decode cX11_looked 4 = .ok (.getfield 14, 3) := by decide +kernel
theorem dX11_looked_7 : decode cX11_looked 7 = .ok (.getfield 234, 3) := by decide +kernel
theorem dX11_looked_10 : decode cX11_looked 10 = .ok (.if_icmp .ge 42, 3) := by decide +kernel
theorem dX11_looked_13 : decode cX11_looked 13 = .ok (.aload_n 0, 1) := by decide +kernel
theorem dX11_looked_14 : decode cX11_looked 14 = .ok (.getfield 14, 3) := by decide +kernel
theorem dX11_looked_17 : decode cX11_looked 17 = .ok (.getfield 87, 3) := by decide +kernel
theorem dX11_looked_20 : decode cX11_looked 20 = .ok (.aload_n 0, 1) := by decide +kernel
theorem dX11_looked_21 : decode cX11_looked 21 = .ok (.getfield 14, 3) := by decide +kernel
theorem dX11_looked_24 : decode cX11_looked 24 = .ok (.getfield 237, 3) := by decide +kernel
theorem dX11_looked_27 : decode cX11_looked 27 = .ok (.iload_n 1, 1) := by decide +kernel
theorem dX11_looked_28 : decode cX11_looked 28 = .ok (.iaload, 1) := by decide +kernel
theorem dX11_looked_29 : decode cX11_looked 29 = .ok (.aaload, 1) := by decide +kernel
theorem dX11_looked_30 : decode cX11_looked 30 = .ok (.iconst 4, 1) := by decide +kernel
theorem dX11_looked_31 : decode cX11_looked 31 = .ok (.iaload, 1) := by decide +kernel
theorem dX11_looked_32 : decode cX11_looked 32 = .ok (.aload_n 0, 1) := by decide +kernel
theorem dX11_looked_33 : decode cX11_looked 33 = .ok (.getfield 14, 3) := by decide +kernel
theorem dX11_looked_36 : decode cX11_looked 36 = .ok (.getfield 240, 3) := by decide +kernel
theorem dX11_looked_39 : decode cX11_looked 39 = .ok (.iload_n 1, 1) := by decide +kernel
theorem dX11_looked_40 : decode cX11_looked 40 = .ok (.iaload, 1) := by decide +kernel
theorem dX11_looked_41 : decode cX11_looked 41 = .ok (.if_icmp .eq 5, 3) := by decide +kernel
theorem dX11_looked_44 : decode cX11_looked 44 = .ok (.iload_n 1, 1) := by decide +kernel
theorem dX11_looked_45 : decode cX11_looked 45 = .ok (.ireturn, 1) := by decide +kernel
theorem dX11_looked_46 : decode cX11_looked 46 = .ok (.iinc 1 1, 3) := by decide +kernel
theorem dX11_looked_49 : decode cX11_looked 49 = .ok (.goto (-47), 3) := by decide +kernel
theorem dX11_looked_52 : decode cX11_looked 52 = .ok (.bipush (-5), 2) := by decide +kernel
theorem dX11_looked_54 : decode cX11_looked 54 = .ok (.ireturn, 1) := by decide +kernel
theorem dX11_judge_0 : decode cX11_judge 0 = .ok (.iload_n 1, 1) := by decide +kernel
theorem dX11_judge_1 : decode cX11_judge 1 = .ok (.iconst 5, 1) := by decide +kernel
theorem dX11_judge_2 : decode cX11_judge 2 = .ok (.invokestatic 53, 3) := by decide +kernel
theorem dX11_judge_5 : decode cX11_judge 5 = .ok (.ifCond .ne 5, 3) := by decide +kernel
theorem dX11_judge_8 : decode cX11_judge 8 = .ok (.iconst (-1), 1) := by decide +kernel
theorem dX11_judge_9 : decode cX11_judge 9 = .ok (.ireturn, 1) := by decide +kernel
theorem dX11_judge_10 : decode cX11_judge 10 = .ok (.aload_n 0, 1) := by decide +kernel
theorem dX11_judge_11 : decode cX11_judge 11 = .ok (.getfield 42, 3) := by decide +kernel
theorem dX11_judge_14 : decode cX11_judge 14 = .ok (.iload_n 1, 1) := by decide +kernel
theorem dX11_judge_15 : decode cX11_judge 15 = .ok (.iaload, 1) := by decide +kernel
theorem dX11_judge_16 : decode cX11_judge 16 = .ok (.istore_n 3, 1) := by decide +kernel
theorem dX11_judge_17 : decode cX11_judge 17 = .ok (.iload_n 3, 1) := by decide +kernel
theorem dX11_judge_18 : decode cX11_judge 18 = .ok (.iconst 1, 1) := by decide +kernel
theorem dX11_judge_19 : decode cX11_judge 19 = .ok (.if_icmp .eq 11, 3) := by decide +kernel
theorem dX11_judge_22 : decode cX11_judge 22 = .ok (.iload_n 3, 1) := by decide +kernel
theorem dX11_judge_23 : decode cX11_judge 23 = .ok (.iconst (-1), 1) := by decide +kernel
theorem dX11_judge_24 : decode cX11_judge 24 = .ok (.if_icmp .eq 6, 3) := by decide +kernel
theorem dX11_judge_27 : decode cX11_judge 27 = .ok (.bipush (-12), 2) := by decide +kernel
theorem dX11_judge_29 : decode cX11_judge 29 = .ok (.ireturn, 1) := by decide +kernel
theorem dX11_judge_30 : decode cX11_judge 30 = .ok (.iconst 0, 1) := by decide +kernel
theorem dX11_judge_31 : decode cX11_judge 31 = .ok (.istore 4, 2) := by decide +kernel
theorem dX11_judge_33 : decode cX11_judge 33 = .ok (.iload 4, 2) := by decide +kernel
theorem dX11_judge_35 : decode cX11_judge 35 = .ok (.iconst 4, 1) := by decide +kernel
theorem dX11_judge_36 : decode cX11_judge 36 = .ok (.if_icmp .ge 56, 3) := by decide +kernel
theorem dX11_judge_39 : decode cX11_judge 39 = .ok (.aload_n 0, 1) := by decide +kernel
theorem dX11_judge_40 : decode cX11_judge 40 = .ok (.iload_n 1, 1) := by decide +kernel
theorem dX11_judge_41 : decode cX11_judge 41 = .ok (.iload_n 2, 1) := by decide +kernel
theorem dX11_judge_42 : decode cX11_judge 42 = .ok (.iload 4, 2) := by decide +kernel
theorem dX11_judge_44 : decode cX11_judge 44 = .ok (.iadd, 1) := by decide +kernel
theorem dX11_judge_45 : decode cX11_judge 45 = .ok (.invokevirtual 243, 3) := by decide +kernel
theorem dX11_judge_48 : decode cX11_judge 48 = .ok (.ifCond .ne 9, 3) := by decide +kernel
theorem dX11_judge_51 : decode cX11_judge 51 = .ok (.bipush 100, 2) := by decide +kernel
theorem dX11_judge_53 : decode cX11_judge 53 = .ok (.iload 4, 2) := by decide +kernel
theorem dX11_judge_55 : decode cX11_judge 55 = .ok (.iadd, 1) := by decide +kernel
theorem dX11_judge_56 : decode cX11_judge 56 = .ok (.ireturn, 1) := by decide +kernel
theorem dX11_judge_57 : decode cX11_judge 57 = .ok (.aload_n 0, 1) := by decide +kernel
theorem dX11_judge_58 : decode cX11_judge 58 = .ok (.getfield 50, 3) := by decide +kernel
theorem dX11_judge_61 : decode cX11_judge 61 = .ok (.iload_n 1, 1) := by decide +kernel
theorem dX11_judge_62 : decode cX11_judge 62 = .ok (.aaload, 1) := by decide +kernel
theorem dX11_judge_63 : decode cX11_judge 63 = .ok (.iload_n 2, 1) := by decide +kernel
theorem dX11_judge_64 : decode cX11_judge 64 = .ok (.iload 4, 2) := by decide +kernel
theorem dX11_judge_66 : decode cX11_judge 66 = .ok (.iadd, 1) := by decide +kernel
theorem dX11_judge_67 : decode cX11_judge 67 = .ok (.laload, 1) := by decide +kernel
theorem dX11_judge_68 : decode cX11_judge 68 = .ok (.aload_n 0, 1) := by decide +kernel
theorem dX11_judge_69 : decode cX11_judge 69 = .ok (.getfield 14, 3) := by decide +kernel
theorem dX11_judge_72 : decode cX11_judge 72 = .ok (.getfield 101, 3) := by decide +kernel
theorem dX11_judge_75 : decode cX11_judge 75 = .ok (.iload 4, 2) := by decide +kernel
theorem dX11_judge_77 : decode cX11_judge 77 = .ok (.iaload, 1) := by decide +kernel
theorem dX11_judge_78 : decode cX11_judge 78 = .ok (.i2l, 1) := by decide +kernel
theorem dX11_judge_79 : decode cX11_judge 79 = .ok (.lcmp, 1) := by decide +kernel
theorem dX11_judge_80 : decode cX11_judge 80 = .ok (.ifCond .eq 6, 3) := by decide +kernel
theorem dX11_judge_83 : decode cX11_judge 83 = .ok (.iload 4, 2) := by decide +kernel
theorem dX11_judge_85 : decode cX11_judge 85 = .ok (.ireturn, 1) := by decide +kernel
theorem dX11_judge_86 : decode cX11_judge 86 = .ok (.iinc 4 1, 3) := by decide +kernel
theorem dX11_judge_89 : decode cX11_judge 89 = .ok (.goto (-56), 3) := by decide +kernel
theorem dX11_judge_92 : decode cX11_judge 92 = .ok (.bipush (-5), 2) := by decide +kernel
theorem dX11_judge_94 : decode cX11_judge 94 = .ok (.ireturn, 1) := by decide +kernel
theorem dX11_image_0 : decode cX11_image 0 = .ok (.aload_n 0, 1) := by decide +kernel
theorem dX11_image_1 : decode cX11_image 1 = .ok (.getfield 18, 3) := by decide +kernel
theorem dX11_image_4 : decode cX11_image 4 = .ok (.aload_n 0, 1) := by decide +kernel
theorem dX11_image_5 : decode cX11_image 5 = .ok (.getfield 14, 3) := by decide +kernel
theorem dX11_image_8 : decode cX11_image 8 = .ok (.invokevirtual 162, 3) := by decide +kernel
theorem dX11_image_11 : decode cX11_image 11 = .ok (.aload_n 0, 1) := by decide +kernel
theorem dX11_image_12 : decode cX11_image 12 = .ok (.getfield 18, 3) := by decide +kernel
theorem dX11_image_15 : decode cX11_image 15 = .ok (.aload_n 0, 1) := by decide +kernel
theorem dX11_image_16 : decode cX11_image 16 = .ok (.getfield 14, 3) := by decide +kernel
theorem dX11_image_19 : decode cX11_image 19 = .ok (.invokevirtual 246, 3) := by decide +kernel
theorem dX11_image_22 : decode cX11_image 22 = .ok (.aload_n 0, 1) := by decide +kernel
theorem dX11_image_23 : decode cX11_image 23 = .ok (.iconst 1, 1) := by decide +kernel
theorem dX11_image_24 : decode cX11_image 24 = .ok (.putfield 249, 3) := by decide +kernel
theorem dX11_image_27 : decode cX11_image 27 = .ok (.aload_n 0, 1) := by decide +kernel
theorem dX11_image_28 : decode cX11_image 28 = .ok (.getfield 14, 3) := by decide +kernel
theorem dX11_image_31 : decode cX11_image 31 = .ok (.getfield 57, 3) := by decide +kernel
theorem dX11_image_34 : decode cX11_image 34 = .ok (.ireturn, 1) := by decide +kernel
theorem dX11_undo_0 : decode cX11_undo 0 = .ok (.aload_n 0, 1) := by decide +kernel
theorem dX11_undo_1 : decode cX11_undo 1 = .ok (.getfield 249, 3) := by decide +kernel
theorem dX11_undo_4 : decode cX11_undo 4 = .ok (.ifCond .ne 6, 3) := by decide +kernel
theorem dX11_undo_7 : decode cX11_undo 7 = .ok (.bipush (-3), 2) := by decide +kernel
theorem dX11_undo_9 : decode cX11_undo 9 = .ok (.ireturn, 1) := by decide +kernel
theorem dX11_undo_10 : decode cX11_undo 10 = .ok (.aload_n 0, 1) := by decide +kernel
theorem dX11_undo_11 : decode cX11_undo 11 = .ok (.getfield 14, 3) := by decide +kernel
theorem dX11_undo_14 : decode cX11_undo 14 = .ok (.aload_n 0, 1) := by decide +kernel
theorem dX11_undo_15 : decode cX11_undo 15 = .ok (.getfield 18, 3) := by decide +kernel
theorem dX11_undo_18 : decode cX11_undo 18 = .ok (.invokevirtual 162, 3) := by decide +kernel
theorem dX11_undo_21 : decode cX11_undo 21 = .ok (.aload_n 0, 1) := by decide +kernel
theorem dX11_undo_22 : decode cX11_undo 22 = .ok (.getfield 14, 3) := by decide +kernel
theorem dX11_undo_25 : decode cX11_undo 25 = .ok (.aload_n 0, 1) := by decide +kernel
theorem dX11_undo_26 : decode cX11_undo 26 = .ok (.getfield 18, 3) := by decide +kernel
theorem dX11_undo_29 : decode cX11_undo 29 = .ok (.invokevirtual 246, 3) := by decide +kernel
theorem dX11_undo_32 : decode cX11_undo 32 = .ok (.aload_n 0, 1) := by decide +kernel
theorem dX11_undo_33 : decode cX11_undo 33 = .ok (.getfield 14, 3) := by decide +kernel
theorem dX11_undo_36 : decode cX11_undo 36 = .ok (.getfield 57, 3) := by decide +kernel
theorem dX11_undo_39 : decode cX11_undo 39 = .ok (.ireturn, 1) := by decide +kernel
theorem dX11_act_0 : decode cX11_act 0 = .ok (.aload_n 0, 1) := by decide +kernel
theorem dX11_act_1 : decode cX11_act 1 = .ok (.getfield 34, 3) := by decide +kernel
theorem dX11_act_4 : decode cX11_act 4 = .ok (.iconst 0, 1) := by decide +kernel
theorem dX11_act_5 : decode cX11_act 5 = .ok (.putfield 253, 3) := by decide +kernel
theorem dX11_act_8 : decode cX11_act 8 = .ok (.aload_n 0, 1) := by decide +kernel
theorem dX11_act_9 : decode cX11_act 9 = .ok (.getfield 14, 3) := by decide +kernel
theorem dX11_act_12 : decode cX11_act 12 = .ok (.iload_n 1, 1) := by decide +kernel
theorem dX11_act_13 : decode cX11_act 13 = .ok (.invokevirtual 65, 3) := by decide +kernel
theorem dX11_act_16 : decode cX11_act 16 = .ok (.ifCond .eq 11, 3) := by decide +kernel
theorem dX11_act_19 : decode cX11_act 19 = .ok (.iload_n 2, 1) := by decide +kernel
theorem dX11_act_20 : decode cX11_act 20 = .ok (.iconst 2, 1) := by decide +kernel
theorem dX11_act_21 : decode cX11_act 21 = .ok (.invokestatic 53, 3) := by decide +kernel
theorem dX11_act_24 : decode cX11_act 24 = .ok (.ifCond .ne 5, 3) := by decide +kernel
theorem dX11_act_27 : decode cX11_act 27 = .ok (.iconst 0, 1) := by decide +kernel
theorem dX11_act_28 : decode cX11_act 28 = .ok (.ireturn, 1) := by decide +kernel
theorem dX11_act_29 : decode cX11_act 29 = .ok (.aload_n 0, 1) := by decide +kernel
theorem dX11_act_30 : decode cX11_act 30 = .ok (.getfield 34, 3) := by decide +kernel
theorem dX11_act_33 : decode cX11_act 33 = .ok (.iload_n 1, 1) := by decide +kernel
theorem dX11_act_34 : decode cX11_act 34 = .ok (.putfield 256, 3) := by decide +kernel
theorem dX11_act_37 : decode cX11_act 37 = .ok (.aload_n 0, 1) := by decide +kernel
theorem dX11_act_38 : decode cX11_act 38 = .ok (.getfield 34, 3) := by decide +kernel
theorem dX11_act_41 : decode cX11_act 41 = .ok (.aload_n 0, 1) := by decide +kernel
theorem dX11_act_42 : decode cX11_act 42 = .ok (.getfield 14, 3) := by decide +kernel
theorem dX11_act_45 : decode cX11_act 45 = .ok (.getfield 87, 3) := by decide +kernel
theorem dX11_act_48 : decode cX11_act 48 = .ok (.iload_n 1, 1) := by decide +kernel
theorem dX11_act_49 : decode cX11_act 49 = .ok (.aaload, 1) := by decide +kernel
theorem dX11_act_50 : decode cX11_act 50 = .ok (.iconst 1, 1) := by decide +kernel
theorem dX11_act_51 : decode cX11_act 51 = .ok (.iaload, 1) := by decide +kernel
theorem dX11_act_52 : decode cX11_act 52 = .ok (.putfield 259, 3) := by decide +kernel
theorem dX11_act_55 : decode cX11_act 55 = .ok (.aload_n 0, 1) := by decide +kernel
theorem dX11_act_56 : decode cX11_act 56 = .ok (.getfield 14, 3) := by decide +kernel
theorem dX11_act_59 : decode cX11_act 59 = .ok (.getfield 262, 3) := by decide +kernel
theorem dX11_act_62 : decode cX11_act 62 = .ok (.aload_n 0, 1) := by decide +kernel
theorem dX11_act_63 : decode cX11_act 63 = .ok (.getfield 14, 3) := by decide +kernel
theorem dX11_act_66 : decode cX11_act 66 = .ok (.getfield 87, 3) := by decide +kernel
theorem dX11_act_69 : decode cX11_act 69 = .ok (.iload_n 1, 1) := by decide +kernel
theorem dX11_act_70 : decode cX11_act 70 = .ok (.aaload, 1) := by decide +kernel
theorem dX11_act_71 : decode cX11_act 71 = .ok (.iconst 0, 1) := by decide +kernel
theorem dX11_act_72 : decode cX11_act 72 = .ok (.iaload, 1) := by decide +kernel
theorem dX11_act_73 : decode cX11_act 73 = .ok (.aaload, 1) := by decide +kernel
theorem dX11_act_74 : decode cX11_act 74 = .ok (.astore 4, 2) := by decide +kernel
theorem dX11_act_76 : decode cX11_act 76 = .ok (.iload_n 2, 1) := by decide +kernel
theorem dX11_act_77 : decode cX11_act 77 = .ok (.ifCond .ne 14, 3) := by decide +kernel
theorem dX11_act_80 : decode cX11_act 80 = .ok (.aload 4, 2) := by decide +kernel
theorem dX11_act_82 : decode cX11_act 82 = .ok (.aload_n 0, 1) := by decide +kernel
theorem dX11_act_83 : decode cX11_act 83 = .ok (.getfield 34, 3) := by decide +kernel
theorem dX11_act_86 : decode cX11_act 86 = .ok (.iload_n 3, 1) := by decide +kernel
theorem dX11_act_87 : decode cX11_act 87 = .ok (.invokevirtual 266, 3) := by decide +kernel
theorem dX11_act_90 : decode cX11_act 90 = .ok (.ireturn, 1) := by decide +kernel
theorem dX11_act_91 : decode cX11_act 91 = .ok (.iload_n 2, 1) := by decide +kernel
theorem dX11_act_92 : decode cX11_act 92 = .ok (.iconst 1, 1) := by decide +kernel
theorem dX11_act_93 : decode cX11_act 93 = .ok (.if_icmp .ne 16, 3) := by decide +kernel
theorem dX11_act_96 : decode cX11_act 96 = .ok (.aload 4, 2) := by decide +kernel
theorem dX11_act_98 : decode cX11_act 98 = .ok (.aload_n 0, 1) := by decide +kernel
theorem dX11_act_99 : decode cX11_act 99 = .ok (.getfield 34, 3) := by decide +kernel
theorem dX11_act_102 : decode cX11_act 102 = .ok (.iload_n 3, 1) := by decide +kernel
theorem dX11_act_103 : decode cX11_act 103 = .ok (.invokevirtual 272, 3) := by decide +kernel
theorem dX11_act_106 : decode cX11_act 106 = .ok (.goto 13, 3) := by decide +kernel
theorem dX11_act_109 : decode cX11_act 109 = .ok (.aload 4, 2) := by decide +kernel
theorem dX11_act_111 : decode cX11_act 111 = .ok (.aload_n 0, 1) := by decide +kernel
theorem dX11_act_112 : decode cX11_act 112 = .ok (.getfield 34, 3) := by decide +kernel
theorem dX11_act_115 : decode cX11_act 115 = .ok (.iload_n 3, 1) := by decide +kernel
theorem dX11_act_116 : decode cX11_act 116 = .ok (.invokevirtual 275, 3) := by decide +kernel
theorem dX11_act_119 : decode cX11_act 119 = .ok (.ireturn, 1) := by decide +kernel
theorem dX11_trace_0 : decode cX11_trace 0 = .ok (.iload_n 1, 1) := by decide +kernel
theorem dX11_trace_1 : decode cX11_trace 1 = .ok (.aload_n 0, 1) := by decide +kernel
theorem dX11_trace_2 : decode cX11_trace 2 = .ok (.getfield 34, 3) := by decide +kernel
theorem dX11_trace_5 : decode cX11_trace 5 = .ok (.getfield 253, 3) := by decide +kernel
theorem dX11_trace_8 : decode cX11_trace 8 = .ok (.bipush 20, 2) := by decide +kernel
theorem dX11_trace_10 : decode cX11_trace 10 = .ok (.invokestatic 278, 3) := by decide +kernel
theorem dX11_trace_13 : decode cX11_trace 13 = .ok (.iconst 1, 1) := by decide +kernel
theorem dX11_trace_14 : decode cX11_trace 14 = .ok (.isub, 1) := by decide +kernel
theorem dX11_trace_15 : decode cX11_trace 15 = .ok (.invokestatic 53, 3) := by decide +kernel
theorem dX11_trace_18 : decode cX11_trace 18 = .ok (.ifCond .ne 5, 3) := by decide +kernel
theorem dX11_trace_21 : decode cX11_trace 21 = .ok (.iconst (-1), 1) := by decide +kernel
theorem dX11_trace_22 : decode cX11_trace 22 = .ok (.ireturn, 1) := by decide +kernel
theorem dX11_trace_23 : decode cX11_trace 23 = .ok (.aload_n 0, 1) := by decide +kernel
theorem dX11_trace_24 : decode cX11_trace 24 = .ok (.getfield 34, 3) := by decide +kernel
theorem dX11_trace_27 : decode cX11_trace 27 = .ok (.getfield 281, 3) := by decide +kernel
theorem dX11_trace_30 : decode cX11_trace 30 = .ok (.iload_n 1, 1) := by decide +kernel
theorem dX11_trace_31 : decode cX11_trace 31 = .ok (.iaload, 1) := by decide +kernel
theorem dX11_trace_32 : decode cX11_trace 32 = .ok (.ireturn, 1) := by decide +kernel
theorem dX11_taken_0 : decode cX11_taken 0 = .ok (.iload_n 2, 1) := by decide +kernel
theorem dX11_taken_1 : decode cX11_taken 1 = .ok (.bipush 6, 2) := by decide +kernel
theorem dX11_taken_3 : decode cX11_taken 3 = .ok (.invokestatic 53, 3) := by decide +kernel
theorem dX11_taken_6 : decode cX11_taken 6 = .ok (.ifCond .ne 6, 3) := by decide +kernel
theorem dX11_taken_9 : decode cX11_taken 9 = .ok (.bipush (-2), 2) := by decide +kernel
theorem dX11_taken_11 : decode cX11_taken 11 = .ok (.ireturn, 1) := by decide +kernel
theorem dX11_taken_12 : decode cX11_taken 12 = .ok (.aload_n 0, 1) := by decide +kernel
theorem dX11_taken_13 : decode cX11_taken 13 = .ok (.getfield 14, 3) := by decide +kernel
theorem dX11_taken_16 : decode cX11_taken 16 = .ok (.iload_n 1, 1) := by decide +kernel
theorem dX11_taken_17 : decode cX11_taken 17 = .ok (.invokevirtual 65, 3) := by decide +kernel
theorem dX11_taken_20 : decode cX11_taken 20 = .ok (.ifCond .ne 6, 3) := by decide +kernel
theorem dX11_taken_23 : decode cX11_taken 23 = .ok (.bipush (-11), 2) := by decide +kernel
theorem dX11_taken_25 : decode cX11_taken 25 = .ok (.ireturn, 1) := by decide +kernel
theorem dX11_taken_26 : decode cX11_taken 26 = .ok (.aload_n 0, 1) := by decide +kernel
theorem dX11_taken_27 : decode cX11_taken 27 = .ok (.getfield 14, 3) := by decide +kernel
theorem dX11_taken_30 : decode cX11_taken 30 = .ok (.getfield 87, 3) := by decide +kernel
theorem dX11_taken_33 : decode cX11_taken 33 = .ok (.iload_n 1, 1) := by decide +kernel
theorem dX11_taken_34 : decode cX11_taken 34 = .ok (.aaload, 1) := by decide +kernel
theorem dX11_taken_35 : decode cX11_taken 35 = .ok (.iconst 0, 1) := by decide +kernel
theorem dX11_taken_36 : decode cX11_taken 36 = .ok (.iaload, 1) := by decide +kernel
theorem dX11_taken_37 : decode cX11_taken 37 = .ok (.istore_n 3, 1) := by decide +kernel
theorem dX11_taken_38 : decode cX11_taken 38 = .ok (.iload_n 3, 1) := by decide +kernel
theorem dX11_taken_39 : decode cX11_taken 39 = .ok (.istore 4, 2) := by decide +kernel
theorem dX11_taken_41 : decode cX11_taken 41 = .ok (.iconst 0, 1) := by decide +kernel
theorem dX11_taken_42 : decode cX11_taken 42 = .ok (.istore 5, 2) := by decide +kernel
theorem dX11_taken_44 : decode cX11_taken 44 = .ok (.iload 5, 2) := by decide +kernel
theorem dX11_taken_46 : decode cX11_taken 46 = .ok (.bipush 7, 2) := by decide +kernel
theorem dX11_taken_48 : decode cX11_taken 48 = .ok (.if_icmp .ge 30, 3) := by decide +kernel
theorem dX11_taken_51 : decode cX11_taken 51 = .ok (.iload 4, 2) := by decide +kernel
theorem dX11_taken_53 : decode cX11_taken 53 = .ok (.ifCond .lt 25, 3) := by decide +kernel
theorem dX11_taken_56 : decode cX11_taken 56 = .ok (.iload 4, 2) := by decide +kernel
theorem dX11_taken_58 : decode cX11_taken 58 = .ok (.iload_n 2, 1) := by decide +kernel
theorem dX11_taken_59 : decode cX11_taken 59 = .ok (.if_icmp .ne 5, 3) := by decide +kernel
theorem dX11_taken_62 : decode cX11_taken 62 = .ok (.iload_n 3, 1) := by decide +kernel
theorem dX11_taken_63 : decode cX11_taken 63 = .ok (.ireturn, 1) := by decide +kernel
theorem dX11_taken_64 : decode cX11_taken 64 = .ok (.getstatic 284, 3) := by decide +kernel
theorem dX11_taken_67 : decode cX11_taken 67 = .ok (.iload 4, 2) := by decide +kernel
theorem dX11_taken_69 : decode cX11_taken 69 = .ok (.iaload, 1) := by decide +kernel
theorem dX11_taken_70 : decode cX11_taken 70 = .ok (.istore 4, 2) := by decide +kernel
theorem dX11_taken_72 : decode cX11_taken 72 = .ok (.iinc 5 1, 3) := by decide +kernel
theorem dX11_taken_75 : decode cX11_taken 75 = .ok (.goto (-31), 3) := by decide +kernel
theorem dX11_taken_78 : decode cX11_taken 78 = .ok (.bipush (-12), 2) := by decide +kernel
theorem dX11_taken_80 : decode cX11_taken 80 = .ok (.ireturn, 1) := by decide +kernel
theorem dX11_count_0 : decode cX11_count 0 = .ok (.iload_n 1, 1) := by decide +kernel
theorem dX11_count_1 : decode cX11_count 1 = .ok (.tableswitch 96 0 6 #[43, 51, 56, 64, 72, 80, 88], 43) := by decide +kernel
theorem dX11_count_44 : decode cX11_count 44 = .ok (.aload_n 0, 1) := by decide +kernel
theorem dX11_count_45 : decode cX11_count 45 = .ok (.getfield 14, 3) := by decide +kernel
theorem dX11_count_48 : decode cX11_count 48 = .ok (.getfield 57, 3) := by decide +kernel
theorem dX11_count_51 : decode cX11_count 51 = .ok (.ireturn, 1) := by decide +kernel
theorem dX11_count_52 : decode cX11_count 52 = .ok (.aload_n 0, 1) := by decide +kernel
theorem dX11_count_53 : decode cX11_count 53 = .ok (.getfield 114, 3) := by decide +kernel
theorem dX11_count_56 : decode cX11_count 56 = .ok (.ireturn, 1) := by decide +kernel
theorem dX11_count_57 : decode cX11_count 57 = .ok (.aload_n 0, 1) := by decide +kernel
theorem dX11_count_58 : decode cX11_count 58 = .ok (.getfield 14, 3) := by decide +kernel
theorem dX11_count_61 : decode cX11_count 61 = .ok (.getfield 191, 3) := by decide +kernel
theorem dX11_count_64 : decode cX11_count 64 = .ok (.ireturn, 1) := by decide +kernel
theorem dX11_count_65 : decode cX11_count 65 = .ok (.aload_n 0, 1) := by decide +kernel
theorem dX11_count_66 : decode cX11_count 66 = .ok (.getfield 14, 3) := by decide +kernel
theorem dX11_count_69 : decode cX11_count 69 = .ok (.getfield 222, 3) := by decide +kernel
theorem dX11_count_72 : decode cX11_count 72 = .ok (.ireturn, 1) := by decide +kernel
theorem dX11_count_73 : decode cX11_count 73 = .ok (.aload_n 0, 1) := by decide +kernel
theorem dX11_count_74 : decode cX11_count 74 = .ok (.getfield 14, 3) := by decide +kernel
theorem dX11_count_77 : decode cX11_count 77 = .ok (.getfield 234, 3) := by decide +kernel
theorem dX11_count_80 : decode cX11_count 80 = .ok (.ireturn, 1) := by decide +kernel
theorem dX11_count_81 : decode cX11_count 81 = .ok (.aload_n 0, 1) := by decide +kernel
theorem dX11_count_82 : decode cX11_count 82 = .ok (.getfield 27, 3) := by decide +kernel
theorem dX11_count_85 : decode cX11_count 85 = .ok (.getfield 107, 3) := by decide +kernel
theorem dX11_count_88 : decode cX11_count 88 = .ok (.ireturn, 1) := by decide +kernel
theorem dX11_count_89 : decode cX11_count 89 = .ok (.aload_n 0, 1) := by decide +kernel
theorem dX11_count_90 : decode cX11_count 90 = .ok (.getfield 34, 3) := by decide +kernel
theorem dX11_count_93 : decode cX11_count 93 = .ok (.getfield 253, 3) := by decide +kernel
theorem dX11_count_96 : decode cX11_count 96 = .ok (.ireturn, 1) := by decide +kernel
theorem dX11_count_97 : decode cX11_count 97 = .ok (.bipush (-2), 2) := by decide +kernel
theorem dX11_count_99 : decode cX11_count 99 = .ok (.ireturn, 1) := by decide +kernel
theorem dX11_tape_0 : decode cX11_tape 0 = .ok (.iload_n 1, 1) := by decide +kernel
theorem dX11_tape_1 : decode cX11_tape 1 = .ok (.iconst 5, 1) := by decide +kernel
theorem dX11_tape_2 : decode cX11_tape 2 = .ok (.invokestatic 53, 3) := by decide +kernel
theorem dX11_tape_5 : decode cX11_tape 5 = .ok (.ifCond .ne 5, 3) := by decide +kernel
theorem dX11_tape_8 : decode cX11_tape 8 = .ok (.iconst (-1), 1) := by decide +kernel
theorem dX11_tape_9 : decode cX11_tape 9 = .ok (.ireturn, 1) := by decide +kernel
theorem dX11_tape_10 : decode cX11_tape 10 = .ok (.iload_n 2, 1) := by decide +kernel
theorem dX11_tape_11 : decode cX11_tape 11 = .ok (.iconst (-1), 1) := by decide +kernel
theorem dX11_tape_12 : decode cX11_tape 12 = .ok (.if_icmp .lt 19, 3) := by decide +kernel
theorem dX11_tape_15 : decode cX11_tape 15 = .ok (.iload_n 2, 1) := by decide +kernel
theorem dX11_tape_16 : decode cX11_tape 16 = .ok (.iconst 4, 1) := by decide +kernel
theorem dX11_tape_17 : decode cX11_tape 17 = .ok (.if_icmp .gt 14, 3) := by decide +kernel
theorem dX11_tape_20 : decode cX11_tape 20 = .ok (.iload_n 2, 1) := by decide +kernel
theorem dX11_tape_21 : decode cX11_tape 21 = .ok (.iconst (-1), 1) := by decide +kernel
theorem dX11_tape_22 : decode cX11_tape 22 = .ok (.if_icmp .eq 12, 3) := by decide +kernel
theorem dX11_tape_25 : decode cX11_tape 25 = .ok (.iload_n 3, 1) := by decide +kernel
theorem dX11_tape_26 : decode cX11_tape 26 = .ok (.bipush 60, 2) := by decide +kernel
theorem dX11_tape_28 : decode cX11_tape 28 = .ok (.if_icmp .le 6, 3) := by decide +kernel
theorem dX11_tape_31 : decode cX11_tape 31 = .ok (.bipush (-2), 2) := by decide +kernel
theorem dX11_tape_33 : decode cX11_tape 33 = .ok (.ireturn, 1) := by decide +kernel
theorem dX11_tape_34 : decode cX11_tape 34 = .ok (.iload_n 2, 1) := by decide +kernel
theorem dX11_tape_35 : decode cX11_tape 35 = .ok (.iconst (-1), 1) := by decide +kernel
theorem dX11_tape_36 : decode cX11_tape 36 = .ok (.if_icmp .eq 10, 3) := by decide +kernel
theorem dX11_tape_39 : decode cX11_tape 39 = .ok (.iload_n 3, 1) := by decide +kernel
theorem dX11_tape_40 : decode cX11_tape 40 = .ok (.ifCond .ge 6, 3) := by decide +kernel
theorem dX11_tape_43 : decode cX11_tape 43 = .ok (.bipush (-14), 2) := by decide +kernel
theorem dX11_tape_45 : decode cX11_tape 45 = .ok (.ireturn, 1) := by decide +kernel
theorem dX11_tape_46 : decode cX11_tape 46 = .ok (.aload_n 0, 1) := by decide +kernel
theorem dX11_tape_47 : decode cX11_tape 47 = .ok (.getfield 42, 3) := by decide +kernel
theorem dX11_tape_50 : decode cX11_tape 50 = .ok (.iload_n 1, 1) := by decide +kernel
theorem dX11_tape_51 : decode cX11_tape 51 = .ok (.iload_n 2, 1) := by decide +kernel
theorem dX11_tape_52 : decode cX11_tape 52 = .ok (.iastore, 1) := by decide +kernel
theorem dX11_tape_53 : decode cX11_tape 53 = .ok (.aload_n 0, 1) := by decide +kernel
theorem dX11_tape_54 : decode cX11_tape 54 = .ok (.getfield 45, 3) := by decide +kernel
theorem dX11_tape_57 : decode cX11_tape 57 = .ok (.iload_n 1, 1) := by decide +kernel
theorem dX11_tape_58 : decode cX11_tape 58 = .ok (.iload_n 2, 1) := by decide +kernel
theorem dX11_tape_59 : decode cX11_tape 59 = .ok (.iconst (-1), 1) := by decide +kernel
theorem dX11_tape_60 : decode cX11_tape 60 = .ok (.if_icmp .ne 7, 3) := by decide +kernel
theorem dX11_tape_63 : decode cX11_tape 63 = .ok (.iconst 0, 1) := by decide +kernel
theorem dX11_tape_64 : decode cX11_tape 64 = .ok (.goto 4, 3) := by decide +kernel
theorem dX11_tape_67 : decode cX11_tape 67 = .ok (.iload_n 3, 1) := by decide +kernel
theorem dX11_tape_68 : decode cX11_tape 68 = .ok (.iastore, 1) := by decide +kernel
theorem dX11_tape_69 : decode cX11_tape 69 = .ok (.aload_n 0, 1) := by decide +kernel
theorem dX11_tape_70 : decode cX11_tape 70 = .ok (.getfield 50, 3) := by decide +kernel
theorem dX11_tape_73 : decode cX11_tape 73 = .ok (.iload_n 1, 1) := by decide +kernel
theorem dX11_tape_74 : decode cX11_tape 74 = .ok (.aaload, 1) := by decide +kernel
theorem dX11_tape_75 : decode cX11_tape 75 = .ok (.lconst 0, 1) := by decide +kernel
theorem dX11_tape_76 : decode cX11_tape 76 = .ok (.invokestatic 287, 3) := by decide +kernel
theorem dX11_tape_79 : decode cX11_tape 79 = .ok (.iconst 1, 1) := by decide +kernel
theorem dX11_tape_80 : decode cX11_tape 80 = .ok (.ireturn, 1) := by decide +kernel
theorem dX11_item_0 : decode cX11_item 0 = .ok (.iload_n 1, 1) := by decide +kernel
theorem dX11_item_1 : decode cX11_item 1 = .ok (.iconst 5, 1) := by decide +kernel
theorem dX11_item_2 : decode cX11_item 2 = .ok (.invokestatic 53, 3) := by decide +kernel
theorem dX11_item_5 : decode cX11_item 5 = .ok (.ifCond .ne 5, 3) := by decide +kernel
theorem dX11_item_8 : decode cX11_item 8 = .ok (.iconst (-1), 1) := by decide +kernel
theorem dX11_item_9 : decode cX11_item 9 = .ok (.ireturn, 1) := by decide +kernel
theorem dX11_item_10 : decode cX11_item 10 = .ok (.aload_n 0, 1) := by decide +kernel
theorem dX11_item_11 : decode cX11_item 11 = .ok (.getfield 42, 3) := by decide +kernel
theorem dX11_item_14 : decode cX11_item 14 = .ok (.iload_n 1, 1) := by decide +kernel
theorem dX11_item_15 : decode cX11_item 15 = .ok (.iaload, 1) := by decide +kernel
theorem dX11_item_16 : decode cX11_item 16 = .ok (.iconst (-1), 1) := by decide +kernel
theorem dX11_item_17 : decode cX11_item 17 = .ok (.if_icmp .ne 6, 3) := by decide +kernel
theorem dX11_item_20 : decode cX11_item 20 = .ok (.bipush (-11), 2) := by decide +kernel
theorem dX11_item_22 : decode cX11_item 22 = .ok (.ireturn, 1) := by decide +kernel
theorem dX11_item_23 : decode cX11_item 23 = .ok (.aload_n 0, 1) := by decide +kernel
theorem dX11_item_24 : decode cX11_item 24 = .ok (.iload_n 1, 1) := by decide +kernel
theorem dX11_item_25 : decode cX11_item 25 = .ok (.iload_n 2, 1) := by decide +kernel
theorem dX11_item_26 : decode cX11_item 26 = .ok (.invokevirtual 243, 3) := by decide +kernel
theorem dX11_item_29 : decode cX11_item 29 = .ok (.ifCond .ne 6, 3) := by decide +kernel
theorem dX11_item_32 : decode cX11_item 32 = .ok (.bipush (-13), 2) := by decide +kernel
theorem dX11_item_34 : decode cX11_item 34 = .ok (.ireturn, 1) := by decide +kernel
theorem dX11_item_35 : decode cX11_item 35 = .ok (.aload_n 0, 1) := by decide +kernel
theorem dX11_item_36 : decode cX11_item 36 = .ok (.getfield 50, 3) := by decide +kernel
theorem dX11_item_39 : decode cX11_item 39 = .ok (.iload_n 1, 1) := by decide +kernel
theorem dX11_item_40 : decode cX11_item 40 = .ok (.aaload, 1) := by decide +kernel
theorem dX11_item_41 : decode cX11_item 41 = .ok (.iload_n 2, 1) := by decide +kernel
theorem dX11_item_42 : decode cX11_item 42 = .ok (.aload_n 0, 1) := by decide +kernel
theorem dX11_item_43 : decode cX11_item 43 = .ok (.getfield 42, 3) := by decide +kernel
theorem dX11_item_46 : decode cX11_item 46 = .ok (.iload_n 1, 1) := by decide +kernel
theorem dX11_item_47 : decode cX11_item 47 = .ok (.iaload, 1) := by decide +kernel
theorem dX11_item_48 : decode cX11_item 48 = .ok (.lload_n 3, 1) := by decide +kernel
theorem dX11_item_49 : decode cX11_item 49 = .ok (.invokestatic 293, 3) := by decide +kernel
theorem dX11_item_52 : decode cX11_item 52 = .ok (.lastore, 1) := by decide +kernel
theorem dX11_item_53 : decode cX11_item 53 = .ok (.iconst 1, 1) := by decide +kernel
theorem dX11_item_54 : decode cX11_item 54 = .ok (.ireturn, 1) := by decide +kernel
theorem dX11_read_0 : decode cX11_read 0 = .ok (.iload_n 1, 1) := by decide +kernel
theorem dX11_read_1 : decode cX11_read 1 = .ok (.iconst 5, 1) := by decide +kernel
theorem dX11_read_2 : decode cX11_read 2 = .ok (.invokestatic 53, 3) := by decide +kernel
theorem dX11_read_5 : decode cX11_read 5 = .ok (.ifCond .eq 12, 3) := by decide +kernel
theorem dX11_read_8 : decode cX11_read 8 = .ok (.aload_n 0, 1) := by decide +kernel
theorem dX11_read_9 : decode cX11_read 9 = .ok (.iload_n 1, 1) := by decide +kernel
theorem dX11_read_10 : decode cX11_read 10 = .ok (.iload_n 2, 1) := by decide +kernel
theorem dX11_read_11 : decode cX11_read 11 = .ok (.invokevirtual 243, 3) := by decide +kernel
theorem dX11_read_14 : decode cX11_read 14 = .ok (.ifCond .ne 7, 3) := by decide +kernel
theorem dX11_read_17 : decode cX11_read 17 = .ok (.ldc2_w 210, 3) := by decide +kernel
theorem dX11_read_20 : decode cX11_read 20 = .ok (.lreturn, 1) := by decide +kernel
theorem dX11_read_21 : decode cX11_read 21 = .ok (.aload_n 0, 1) := by decide +kernel
theorem dX11_read_22 : decode cX11_read 22 = .ok (.getfield 50, 3) := by decide +kernel
theorem dX11_read_25 : decode cX11_read 25 = .ok (.iload_n 1, 1) := by decide +kernel
theorem dX11_read_26 : decode cX11_read 26 = .ok (.aaload, 1) := by decide +kernel
theorem dX11_read_27 : decode cX11_read 27 = .ok (.iload_n 2, 1) := by decide +kernel
theorem dX11_read_28 : decode cX11_read 28 = .ok (.laload, 1) := by decide +kernel
theorem dX11_read_29 : decode cX11_read 29 = .ok (.lreturn, 1) := by decide +kernel
theorem dX11_shift_0 : decode cX11_shift 0 = .ok (.iload_n 1, 1) := by decide +kernel
theorem dX11_shift_1 : decode cX11_shift 1 = .ok (.iconst 5, 1) := by decide +kernel
theorem dX11_shift_2 : decode cX11_shift 2 = .ok (.invokestatic 53, 3) := by decide +kernel
theorem dX11_shift_5 : decode cX11_shift 5 = .ok (.ifCond .eq 11, 3) := by decide +kernel
theorem dX11_shift_8 : decode cX11_shift 8 = .ok (.iload_n 3, 1) := by decide +kernel
theorem dX11_shift_9 : decode cX11_shift 9 = .ok (.iconst 5, 1) := by decide +kernel
theorem dX11_shift_10 : decode cX11_shift 10 = .ok (.invokestatic 53, 3) := by decide +kernel
theorem dX11_shift_13 : decode cX11_shift 13 = .ok (.ifCond .ne 5, 3) := by decide +kernel
theorem dX11_shift_16 : decode cX11_shift 16 = .ok (.iconst (-1), 1) := by decide +kernel
theorem dX11_shift_17 : decode cX11_shift 17 = .ok (.ireturn, 1) := by decide +kernel
theorem dX11_shift_18 : decode cX11_shift 18 = .ok (.aload_n 0, 1) := by decide +kernel
theorem dX11_shift_19 : decode cX11_shift 19 = .ok (.getfield 42, 3) := by decide +kernel
theorem dX11_shift_22 : decode cX11_shift 22 = .ok (.iload_n 1, 1) := by decide +kernel
theorem dX11_shift_23 : decode cX11_shift 23 = .ok (.iaload, 1) := by decide +kernel
theorem dX11_shift_24 : decode cX11_shift 24 = .ok (.iconst (-1), 1) := by decide +kernel
theorem dX11_shift_25 : decode cX11_shift 25 = .ok (.if_icmp .eq 13, 3) := by decide +kernel
theorem dX11_shift_28 : decode cX11_shift 28 = .ok (.aload_n 0, 1) := by decide +kernel
theorem dX11_shift_29 : decode cX11_shift 29 = .ok (.getfield 42, 3) := by decide +kernel
theorem dX11_shift_32 : decode cX11_shift 32 = .ok (.iload_n 3, 1) := by decide +kernel
theorem dX11_shift_33 : decode cX11_shift 33 = .ok (.iaload, 1) := by decide +kernel
theorem dX11_shift_34 : decode cX11_shift 34 = .ok (.iconst (-1), 1) := by decide +kernel
theorem dX11_shift_35 : decode cX11_shift 35 = .ok (.if_icmp .ne 6, 3) := by decide +kernel
theorem dX11_shift_38 : decode cX11_shift 38 = .ok (.bipush (-11), 2) := by decide +kernel
theorem dX11_shift_40 : decode cX11_shift 40 = .ok (.ireturn, 1) := by decide +kernel
theorem dX11_shift_41 : decode cX11_shift 41 = .ok (.aload_n 0, 1) := by decide +kernel
theorem dX11_shift_42 : decode cX11_shift 42 = .ok (.getfield 42, 3) := by decide +kernel
theorem dX11_shift_45 : decode cX11_shift 45 = .ok (.iload_n 1, 1) := by decide +kernel
theorem dX11_shift_46 : decode cX11_shift 46 = .ok (.iaload, 1) := by decide +kernel
theorem dX11_shift_47 : decode cX11_shift 47 = .ok (.aload_n 0, 1) := by decide +kernel
theorem dX11_shift_48 : decode cX11_shift 48 = .ok (.getfield 42, 3) := by decide +kernel
theorem dX11_shift_51 : decode cX11_shift 51 = .ok (.iload_n 3, 1) := by decide +kernel
theorem dX11_shift_52 : decode cX11_shift 52 = .ok (.iaload, 1) := by decide +kernel
theorem dX11_shift_53 : decode cX11_shift 53 = .ok (.if_icmp .eq 6, 3) := by decide +kernel
theorem dX11_shift_56 : decode cX11_shift 56 = .ok (.bipush (-12), 2) := by decide +kernel
theorem dX11_shift_58 : decode cX11_shift 58 = .ok (.ireturn, 1) := by decide +kernel
theorem dX11_shift_59 : decode cX11_shift 59 = .ok (.aload_n 0, 1) := by decide +kernel
theorem dX11_shift_60 : decode cX11_shift 60 = .ok (.iload_n 1, 1) := by decide +kernel
theorem dX11_shift_61 : decode cX11_shift 61 = .ok (.iload_n 2, 1) := by decide +kernel
theorem dX11_shift_62 : decode cX11_shift 62 = .ok (.iload 5, 2) := by decide +kernel
theorem dX11_shift_64 : decode cX11_shift 64 = .ok (.invokevirtual 297, 3) := by decide +kernel
theorem dX11_shift_67 : decode cX11_shift 67 = .ok (.ifCond .eq 15, 3) := by decide +kernel
theorem dX11_shift_70 : decode cX11_shift 70 = .ok (.aload_n 0, 1) := by decide +kernel
theorem dX11_shift_71 : decode cX11_shift 71 = .ok (.iload_n 3, 1) := by decide +kernel
theorem dX11_shift_72 : decode cX11_shift 72 = .ok (.iload 4, 2) := by decide +kernel
theorem dX11_shift_74 : decode cX11_shift 74 = .ok (.iload 5, 2) := by decide +kernel
theorem dX11_shift_76 : decode cX11_shift 76 = .ok (.invokevirtual 297, 3) := by decide +kernel
theorem dX11_shift_79 : decode cX11_shift 79 = .ok (.ifCond .ne 6, 3) := by decide +kernel
theorem dX11_shift_82 : decode cX11_shift 82 = .ok (.bipush (-13), 2) := by decide +kernel
theorem dX11_shift_84 : decode cX11_shift 84 = .ok (.ireturn, 1) := by decide +kernel
theorem dX11_shift_85 : decode cX11_shift 85 = .ok (.aload_n 0, 1) := by decide +kernel
theorem dX11_shift_86 : decode cX11_shift 86 = .ok (.getfield 50, 3) := by decide +kernel
theorem dX11_shift_89 : decode cX11_shift 89 = .ok (.iload_n 1, 1) := by decide +kernel
theorem dX11_shift_90 : decode cX11_shift 90 = .ok (.aaload, 1) := by decide +kernel
theorem dX11_shift_91 : decode cX11_shift 91 = .ok (.iload_n 2, 1) := by decide +kernel
theorem dX11_shift_92 : decode cX11_shift 92 = .ok (.aload_n 0, 1) := by decide +kernel
theorem dX11_shift_93 : decode cX11_shift 93 = .ok (.getfield 50, 3) := by decide +kernel
theorem dX11_shift_96 : decode cX11_shift 96 = .ok (.iload_n 3, 1) := by decide +kernel
theorem dX11_shift_97 : decode cX11_shift 97 = .ok (.aaload, 1) := by decide +kernel
theorem dX11_shift_98 : decode cX11_shift 98 = .ok (.iload 4, 2) := by decide +kernel
theorem dX11_shift_100 : decode cX11_shift 100 = .ok (.iload 5, 2) := by decide +kernel
theorem dX11_shift_102 : decode cX11_shift 102 = .ok (.invokestatic 300, 3) := by decide +kernel
theorem dX11_shift_105 : decode cX11_shift 105 = .ok (.iload 5, 2) := by decide +kernel
theorem dX11_shift_107 : decode cX11_shift 107 = .ok (.ireturn, 1) := by decide +kernel
theorem dX11_hasItem_0 : decode cX11_hasItem 0 = .ok (.iload_n 2, 1) := by decide +kernel
theorem dX11_hasItem_1 : decode cX11_hasItem 1 = .ok (.aload_n 0, 1) := by decide +kernel
theorem dX11_hasItem_2 : decode cX11_hasItem 2 = .ok (.getfield 45, 3) := by decide +kernel
theorem dX11_hasItem_5 : decode cX11_hasItem 5 = .ok (.iload_n 1, 1) := by decide +kernel
theorem dX11_hasItem_6 : decode cX11_hasItem 6 = .ok (.iaload, 1) := by decide +kernel
theorem dX11_hasItem_7 : decode cX11_hasItem 7 = .ok (.iconst 1, 1) := by decide +kernel
theorem dX11_hasItem_8 : decode cX11_hasItem 8 = .ok (.isub, 1) := by decide +kernel
theorem dX11_hasItem_9 : decode cX11_hasItem 9 = .ok (.invokestatic 53, 3) := by decide +kernel
theorem dX11_hasItem_12 : decode cX11_hasItem 12 = .ok (.ireturn, 1) := by decide +kernel
theorem dX11_hasItems_0 : decode cX11_hasItems 0 = .ok (.iload_n 2, 1) := by decide +kernel
theorem dX11_hasItems_1 : decode cX11_hasItems 1 = .ok (.ifCond .lt 27, 3) := by decide +kernel
theorem dX11_hasItems_4 : decode cX11_hasItems 4 = .ok (.iload_n 3, 1) := by decide +kernel
theorem dX11_hasItems_5 : decode cX11_hasItems 5 = .ok (.ifCond .lt 23, 3) := by decide +kernel
theorem dX11_hasItems_8 : decode cX11_hasItems 8 = .ok (.iload_n 2, 1) := by decide +kernel
theorem dX11_hasItems_9 : decode cX11_hasItems 9 = .ok (.i2l, 1) := by decide +kernel
theorem dX11_hasItems_10 : decode cX11_hasItems 10 = .ok (.iload_n 3, 1) := by decide +kernel
theorem dX11_hasItems_11 : decode cX11_hasItems 11 = .ok (.i2l, 1) := by decide +kernel
theorem dX11_hasItems_12 : decode cX11_hasItems 12 = .ok (.ladd, 1) := by decide +kernel
theorem dX11_hasItems_13 : decode cX11_hasItems 13 = .ok (.aload_n 0, 1) := by decide +kernel
theorem dX11_hasItems_14 : decode cX11_hasItems 14 = .ok (.getfield 45, 3) := by decide +kernel
theorem dX11_hasItems_17 : decode cX11_hasItems 17 = .ok (.iload_n 1, 1) := by decide +kernel
theorem dX11_hasItems_18 : decode cX11_hasItems 18 = .ok (.iaload, 1) := by decide +kernel
theorem dX11_hasItems_19 : decode cX11_hasItems 19 = .ok (.i2l, 1) := by decide +kernel
theorem dX11_hasItems_20 : decode cX11_hasItems 20 = .ok (.lcmp, 1) := by decide +kernel
theorem dX11_hasItems_21 : decode cX11_hasItems 21 = .ok (.ifCond .gt 7, 3) := by decide +kernel
theorem dX11_hasItems_24 : decode cX11_hasItems 24 = .ok (.iconst 1, 1) := by decide +kernel
theorem dX11_hasItems_25 : decode cX11_hasItems 25 = .ok (.goto 4, 3) := by decide +kernel
theorem dX11_hasItems_28 : decode cX11_hasItems 28 = .ok (.iconst 0, 1) := by decide +kernel
theorem dX11_hasItems_29 : decode cX11_hasItems 29 = .ok (.ireturn, 1) := by decide +kernel
theorem dX11_lowestBits_0 : decode cX11_lowestBits 0 = .ok (.iload_n 0, 1) := by decide +kernel
theorem dX11_lowestBits_1 : decode cX11_lowestBits 1 = .ok (.tableswitch 47 0 3 #[31, 36, 41, 45], 31) := by decide +kernel
theorem dX11_lowestBits_32 : decode cX11_lowestBits 32 = .ok (.lload_n 1, 1) := by decide +kernel
theorem dX11_lowestBits_33 : decode cX11_lowestBits 33 = .ok (.l2i, 1) := by decide +kernel
theorem dX11_lowestBits_34 : decode cX11_lowestBits 34 = .ok (.i2b, 1) := by decide +kernel
theorem dX11_lowestBits_35 : decode cX11_lowestBits 35 = .ok (.i2l, 1) := by decide +kernel
theorem dX11_lowestBits_36 : decode cX11_lowestBits 36 = .ok (.lreturn, 1) := by decide +kernel
theorem dX11_lowestBits_37 : decode cX11_lowestBits 37 = .ok (.lload_n 1, 1) := by decide +kernel
theorem dX11_lowestBits_38 : decode cX11_lowestBits 38 = .ok (.l2i, 1) := by decide +kernel
theorem dX11_lowestBits_39 : decode cX11_lowestBits 39 = .ok (.i2s, 1) := by decide +kernel
theorem dX11_lowestBits_40 : decode cX11_lowestBits 40 = .ok (.i2l, 1) := by decide +kernel
theorem dX11_lowestBits_41 : decode cX11_lowestBits 41 = .ok (.lreturn, 1) := by decide +kernel
theorem dX11_lowestBits_42 : decode cX11_lowestBits 42 = .ok (.lload_n 1, 1) := by decide +kernel
theorem dX11_lowestBits_43 : decode cX11_lowestBits 43 = .ok (.l2i, 1) := by decide +kernel
theorem dX11_lowestBits_44 : decode cX11_lowestBits 44 = .ok (.i2l, 1) := by decide +kernel
theorem dX11_lowestBits_45 : decode cX11_lowestBits 45 = .ok (.lreturn, 1) := by decide +kernel
theorem dX11_lowestBits_46 : decode cX11_lowestBits 46 = .ok (.lload_n 1, 1) := by decide +kernel
theorem dX11_lowestBits_47 : decode cX11_lowestBits 47 = .ok (.lreturn, 1) := by decide +kernel
theorem dX11_lowestBits_48 : decode cX11_lowestBits 48 = .ok (.lload_n 1, 1) := by decide +kernel
theorem dX11_lowestBits_49 : decode cX11_lowestBits 49 = .ok (.lconst 0, 1) := by decide +kernel
theorem dX11_lowestBits_50 : decode cX11_lowestBits 50 = .ok (.lcmp, 1) := by decide +kernel
theorem dX11_lowestBits_51 : decode cX11_lowestBits 51 = .ok (.ifCond .eq 7, 3) := by decide +kernel
theorem dX11_lowestBits_54 : decode cX11_lowestBits 54 = .ok (.lconst 1, 1) := by decide +kernel
theorem dX11_lowestBits_55 : decode cX11_lowestBits 55 = .ok (.goto 4, 3) := by decide +kernel
theorem dX11_lowestBits_58 : decode cX11_lowestBits 58 = .ok (.lconst 0, 1) := by decide +kernel
theorem dX11_lowestBits_59 : decode cX11_lowestBits 59 = .ok (.lreturn, 1) := by decide +kernel
theorem dX11_within_0 : decode cX11_within 0 = .ok (.iload_n 0, 1) := by decide +kernel
theorem dX11_within_1 : decode cX11_within 1 = .ok (.ifCond .lt 12, 3) := by decide +kernel
theorem dX11_within_4 : decode cX11_within 4 = .ok (.iload_n 0, 1) := by decide +kernel
theorem dX11_within_5 : decode cX11_within 5 = .ok (.iload_n 1, 1) := by decide +kernel
theorem dX11_within_6 : decode cX11_within 6 = .ok (.if_icmp .gt 7, 3) := by decide +kernel
theorem dX11_within_9 : decode cX11_within 9 = .ok (.iconst 1, 1) := by decide +kernel
theorem dX11_within_10 : decode cX11_within 10 = .ok (.goto 4, 3) := by decide +kernel
theorem dX11_within_13 : decode cX11_within 13 = .ok (.iconst 0, 1) := by decide +kernel
theorem dX11_within_14 : decode cX11_within 14 = .ok (.ireturn, 1) := by decide +kernel
theorem dX11_swap_0 : decode cX11_swap 0 = .ok (.aload_n 0, 1) := by decide +kernel
theorem dX11_swap_1 : decode cX11_swap 1 = .ok (.iload_n 1, 1) := by decide +kernel
theorem dX11_swap_2 : decode cX11_swap 2 = .ok (.iaload, 1) := by decide +kernel
theorem dX11_swap_3 : decode cX11_swap 3 = .ok (.istore_n 3, 1) := by decide +kernel
theorem dX11_swap_4 : decode cX11_swap 4 = .ok (.aload_n 0, 1) := by decide +kernel
theorem dX11_swap_5 : decode cX11_swap 5 = .ok (.iload_n 1, 1) := by decide +kernel
theorem dX11_swap_6 : decode cX11_swap 6 = .ok (.iload_n 2, 1) := by decide +kernel
theorem dX11_swap_7 : decode cX11_swap 7 = .ok (.iastore, 1) := by decide +kernel
theorem dX11_swap_8 : decode cX11_swap 8 = .ok (.iload_n 3, 1) := by decide +kernel
theorem dX11_swap_9 : decode cX11_swap 9 = .ok (.ireturn, 1) := by decide +kernel
