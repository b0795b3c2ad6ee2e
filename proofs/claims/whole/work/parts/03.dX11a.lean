theorem dX11_init_0 : decode cX11_init 0 = .ok (.aload_n 0, 1) := by decide +kernel
theorem dX11_init_1 : decode cX11_init 1 = .ok (.invokespecial 5, 3) := by decide +kernel
theorem dX11_init_4 : decode cX11_init 4 = .ok (.aload_n 0, 1) := by decide +kernel
theorem dX11_init_5 : decode cX11_init 5 = .ok (.new 11, 3) := by decide +kernel
theorem dX11_init_8 : decode cX11_init 8 = .ok (.dup, 1) := by decide +kernel
theorem dX11_init_9 : decode cX11_init 9 = .ok (.invokespecial 13, 3) := by decide +kernel
theorem dX11_init_12 : decode cX11_init 12 = .ok (.putfield 14, 3) := by decide +kernel
theorem dX11_init_15 : decode cX11_init 15 = .ok (.aload_n 0, 1) := by decide +kernel
theorem dX11_init_16 : decode cX11_init 16 = .ok (.new 11, 3) := by decide +kernel
theorem dX11_init_19 : decode cX11_init 19 = .ok (.dup, 1) := by decide +kernel
theorem dX11_init_20 : decode cX11_init 20 = .ok (.invokespecial 13, 3) := by decide +kernel
theorem dX11_init_23 : decode cX11_init 23 = .ok (.putfield 18, 3) := by decide +kernel
theorem dX11_init_26 : decode cX11_init 26 = .ok (.aload_n 0, 1) := by decide +kernel
theorem dX11_init_27 : decode cX11_init 27 = .ok (.new 11, 3) := by decide +kernel
theorem dX11_init_30 : decode cX11_init 30 = .ok (.dup, 1) := by decide +kernel
theorem dX11_init_31 : decode cX11_init 31 = .ok (.invokespecial 13, 3) := by decide +kernel
theorem dX11_init_34 : decode cX11_init 34 = .ok (.putfield 21, 3) := by decide +kernel
theorem dX11_init_37 : decode cX11_init 37 = .ok (.aload_n 0, 1) := by decide +kernel
theorem dX11_init_38 : decode cX11_init 38 = .ok (.new 24, 3) := by decide +kernel
theorem dX11_init_41 : decode cX11_init 41 = .ok (.dup, 1) := by decide +kernel
theorem dX11_init_42 : decode cX11_init 42 = .ok (.invokespecial 26, 3) := by decide +kernel
theorem dX11_init_45 : decode cX11_init 45 = .ok (.putfield 27, 3) := by decide +kernel
theorem dX11_init_48 : decode cX11_init 48 = .ok (.aload_n 0, 1) := by decide +kernel
theorem dX11_init_49 : decode cX11_init 49 = .ok (.new 31, 3) := by decide +kernel
theorem dX11_init_52 : decode cX11_init 52 = .ok (.dup, 1) := by decide +kernel
theorem dX11_init_53 : decode cX11_init 53 = .ok (.invokespecial 33, 3) := by decide +kernel
theorem dX11_init_56 : decode cX11_init 56 = .ok (.putfield 34, 3) := by decide +kernel
theorem dX11_init_59 : decode cX11_init 59 = .ok (.aload_n 0, 1) := by decide +kernel
theorem dX11_init_60 : decode cX11_init 60 = .ok (.iconst 3, 1) := by decide +kernel
theorem dX11_init_61 : decode cX11_init 61 = .ok (.newarray .int, 2) := by decide +kernel
theorem dX11_init_63 : decode cX11_init 63 = .ok (.putfield 38, 3) := by decide +kernel
theorem dX11_init_66 : decode cX11_init 66 = .ok (.aload_n 0, 1) := by decide +kernel
theorem dX11_init_67 : decode cX11_init 67 = .ok (.bipush 6, 2) := by decide +kernel
theorem dX11_init_69 : decode cX11_init 69 = .ok (.newarray .int, 2) := by decide +kernel
theorem dX11_init_71 : decode cX11_init 71 = .ok (.putfield 42, 3) := by decide +kernel
theorem dX11_init_74 : decode cX11_init 74 = .ok (.aload_n 0, 1) := by decide +kernel
theorem dX11_init_75 : decode cX11_init 75 = .ok (.bipush 6, 2) := by decide +kernel
theorem dX11_init_77 : decode cX11_init 77 = .ok (.newarray .int, 2) := by decide +kernel
theorem dX11_init_79 : decode cX11_init 79 = .ok (.putfield 45, 3) := by decide +kernel
theorem dX11_init_82 : decode cX11_init 82 = .ok (.aload_n 0, 1) := by decide +kernel
theorem dX11_init_83 : decode cX11_init 83 = .ok (.bipush 6, 2) := by decide +kernel
theorem dX11_init_85 : decode cX11_init 85 = .ok (.bipush 60, 2) := by decide +kernel
theorem dX11_init_87 : decode cX11_init 87 = .ok (.multianewarray 48 2, 4) := by decide +kernel
theorem dX11_init_91 : decode cX11_init 91 = .ok (.putfield 50, 3) := by decide +kernel
theorem dX11_init_94 : decode cX11_init 94 = .ok (.iconst 0, 1) := by decide +kernel
theorem dX11_init_95 : decode cX11_init 95 = .ok (.istore_n 1, 1) := by decide +kernel
theorem dX11_init_96 : decode cX11_init 96 = .ok (.iload_n 1, 1) := by decide +kernel
theorem dX11_init_97 : decode cX11_init 97 = .ok (.bipush 6, 2) := by decide +kernel
theorem dX11_init_99 : decode cX11_init 99 = .ok (.if_icmp .ge 16, 3) := by decide +kernel
theorem dX11_init_102 : decode cX11_init 102 = .ok (.aload_n 0, 1) := by decide +kernel
theorem dX11_init_103 : decode cX11_init 103 = .ok (.getfield 42, 3) := by decide +kernel
theorem dX11_init_106 : decode cX11_init 106 = .ok (.iload_n 1, 1) := by decide +kernel
theorem dX11_init_107 : decode cX11_init 107 = .ok (.iconst (-1), 1) := by decide +kernel
theorem dX11_init_108 : decode cX11_init 108 = .ok (.iastore, 1) := by decide +kernel
theorem dX11_init_109 : decode cX11_init 109 = .ok (.iinc 1 1, 3) := by decide +kernel
theorem dX11_init_112 : decode cX11_init 112 = .ok (.goto (-16), 3) := by decide +kernel
theorem dX11_init_115 : decode cX11_init 115 = .ok (.return_, 1) := by decide +kernel
theorem dX11_rocket_0 : decode cX11_rocket 0 = .ok (.iload_n 1, 1) := by decide +kernel
theorem dX11_rocket_1 : decode cX11_rocket 1 = .ok (.bipush 6, 2) := by decide +kernel
theorem dX11_rocket_3 : decode cX11_rocket 3 = .ok (.invokestatic 53, 3) := by decide +kernel
theorem dX11_rocket_6 : decode cX11_rocket 6 = .ok (.ifCond .eq 12, 3) := by decide +kernel
theorem dX11_rocket_9 : decode cX11_rocket 9 = .ok (.iload 4, 2) := by decide +kernel
theorem dX11_rocket_11 : decode cX11_rocket 11 = .ok (.iconst 3, 1) := by decide +kernel
theorem dX11_rocket_12 : decode cX11_rocket 12 = .ok (.invokestatic 53, 3) := by decide +kernel
theorem dX11_rocket_15 : decode cX11_rocket 15 = .ok (.ifCond .ne 5, 3) := by decide +kernel
theorem dX11_rocket_18 : decode cX11_rocket 18 = .ok (.iconst (-1), 1) := by decide +kernel
theorem dX11_rocket_19 : decode cX11_rocket 19 = .ok (.ireturn, 1) := by decide +kernel
theorem dX11_rocket_20 : decode cX11_rocket 20 = .ok (.iload_n 2, 1) := by decide +kernel
theorem dX11_rocket_21 : decode cX11_rocket 21 = .ok (.bipush 9, 2) := by decide +kernel
theorem dX11_rocket_23 : decode cX11_rocket 23 = .ok (.invokestatic 53, 3) := by decide +kernel
theorem dX11_rocket_26 : decode cX11_rocket 26 = .ok (.ifCond .eq 12, 3) := by decide +kernel
theorem dX11_rocket_29 : decode cX11_rocket 29 = .ok (.iload_n 3, 1) := by decide +kernel
theorem dX11_rocket_30 : decode cX11_rocket 30 = .ok (.bipush 20, 2) := by decide +kernel
theorem dX11_rocket_32 : decode cX11_rocket 32 = .ok (.invokestatic 53, 3) := by decide +kernel
theorem dX11_rocket_35 : decode cX11_rocket 35 = .ok (.ifCond .ne 6, 3) := by decide +kernel
theorem dX11_rocket_38 : decode cX11_rocket 38 = .ok (.bipush (-2), 2) := by decide +kernel
theorem dX11_rocket_40 : decode cX11_rocket 40 = .ok (.ireturn, 1) := by decide +kernel
theorem dX11_rocket_41 : decode cX11_rocket 41 = .ok (.aload_n 0, 1) := by decide +kernel
theorem dX11_rocket_42 : decode cX11_rocket 42 = .ok (.getfield 14, 3) := by decide +kernel
theorem dX11_rocket_45 : decode cX11_rocket 45 = .ok (.getfield 57, 3) := by decide +kernel
theorem dX11_rocket_48 : decode cX11_rocket 48 = .ok (.bipush 6, 2) := by decide +kernel
theorem dX11_rocket_50 : decode cX11_rocket 50 = .ok (.if_icmp .lt 6, 3) := by decide +kernel
theorem dX11_rocket_53 : decode cX11_rocket 53 = .ok (.bipush (-4), 2) := by decide +kernel
theorem dX11_rocket_55 : decode cX11_rocket 55 = .ok (.ireturn, 1) := by decide +kernel
theorem dX11_rocket_56 : decode cX11_rocket 56 = .ok (.aload_n 0, 1) := by decide +kernel
theorem dX11_rocket_57 : decode cX11_rocket 57 = .ok (.getfield 14, 3) := by decide +kernel
theorem dX11_rocket_60 : decode cX11_rocket 60 = .ok (.iload_n 1, 1) := by decide +kernel
theorem dX11_rocket_61 : decode cX11_rocket 61 = .ok (.iload_n 2, 1) := by decide +kernel
theorem dX11_rocket_62 : decode cX11_rocket 62 = .ok (.iload_n 3, 1) := by decide +kernel
theorem dX11_rocket_63 : decode cX11_rocket 63 = .ok (.iload 4, 2) := by decide +kernel
theorem dX11_rocket_65 : decode cX11_rocket 65 = .ok (.invokevirtual 61, 3) := by decide +kernel
theorem dX11_rocket_68 : decode cX11_rocket 68 = .ok (.ireturn, 1) := by decide +kernel
theorem dX11_of_0 : decode cX11_of 0 = .ok (.aload_n 0, 1) := by decide +kernel
theorem dX11_of_1 : decode cX11_of 1 = .ok (.getfield 14, 3) := by decide +kernel
theorem dX11_of_4 : decode cX11_of 4 = .ok (.iload_n 1, 1) := by decide +kernel
theorem dX11_of_5 : decode cX11_of 5 = .ok (.invokevirtual 65, 3) := by decide +kernel
theorem dX11_of_8 : decode cX11_of 8 = .ok (.ifCond .eq 12, 3) := by decide +kernel
theorem dX11_of_11 : decode cX11_of 11 = .ok (.iload_n 2, 1) := by decide +kernel
theorem dX11_of_12 : decode cX11_of 12 = .ok (.bipush 10, 2) := by decide +kernel
theorem dX11_of_14 : decode cX11_of 14 = .ok (.invokestatic 53, 3) := by decide +kernel
theorem dX11_of_17 : decode cX11_of 17 = .ok (.ifCond .ne 7, 3) := by decide +kernel
theorem dX11_of_20 : decode cX11_of 20 = .ok (.sipush (-10001), 3) := by decide +kernel
theorem dX11_of_23 : decode cX11_of 23 = .ok (.ireturn, 1) := by decide +kernel
theorem dX11_of_24 : decode cX11_of 24 = .ok (.iload_n 2, 1) := by decide +kernel
theorem dX11_of_25 : decode cX11_of 25 = .ok (.tableswitch 76 6 10 #[35, 44, 50, 61, 67], 35) := by decide +kernel
theorem dX11_of_60 : decode cX11_of 60 = .ok (.aload_n 0, 1) := by decide +kernel
theorem dX11_of_61 : decode cX11_of 61 = .ok (.getfield 14, 3) := by decide +kernel
theorem dX11_of_64 : decode cX11_of 64 = .ok (.iload_n 1, 1) := by decide +kernel
theorem dX11_of_65 : decode cX11_of 65 = .ok (.invokevirtual 69, 3) := by decide +kernel
theorem dX11_of_68 : decode cX11_of 68 = .ok (.ireturn, 1) := by decide +kernel
theorem dX11_of_69 : decode cX11_of 69 = .ok (.aload_n 0, 1) := by decide +kernel
theorem dX11_of_70 : decode cX11_of 70 = .ok (.iload_n 1, 1) := by decide +kernel
theorem dX11_of_71 : decode cX11_of 71 = .ok (.invokevirtual 73, 3) := by decide +kernel
theorem dX11_of_74 : decode cX11_of 74 = .ok (.ireturn, 1) := by decide +kernel
theorem dX11_of_75 : decode cX11_of 75 = .ok (.aload_n 0, 1) := by decide +kernel
theorem dX11_of_76 : decode cX11_of 76 = .ok (.aload_n 0, 1) := by decide +kernel
theorem dX11_of_77 : decode cX11_of 77 = .ok (.iload_n 1, 1) := by decide +kernel
theorem dX11_of_78 : decode cX11_of 78 = .ok (.invokevirtual 73, 3) := by decide +kernel
theorem dX11_of_81 : decode cX11_of 81 = .ok (.iload_n 1, 1) := by decide +kernel
theorem dX11_of_82 : decode cX11_of 82 = .ok (.invokevirtual 76, 3) := by decide +kernel
theorem dX11_of_85 : decode cX11_of 85 = .ok (.ireturn, 1) := by decide +kernel
theorem dX11_of_86 : decode cX11_of 86 = .ok (.aload_n 0, 1) := by decide +kernel
theorem dX11_of_87 : decode cX11_of 87 = .ok (.iload_n 1, 1) := by decide +kernel
theorem dX11_of_88 : decode cX11_of 88 = .ok (.invokevirtual 80, 3) := by decide +kernel
theorem dX11_of_91 : decode cX11_of 91 = .ok (.ireturn, 1) := by decide +kernel
theorem dX11_of_92 : decode cX11_of 92 = .ok (.aload_n 0, 1) := by decide +kernel
theorem dX11_of_93 : decode cX11_of 93 = .ok (.iload_n 1, 1) := by decide +kernel
theorem dX11_of_94 : decode cX11_of 94 = .ok (.iconst 2, 1) := by decide +kernel
theorem dX11_of_95 : decode cX11_of 95 = .ok (.bipush 20, 2) := by decide +kernel
theorem dX11_of_97 : decode cX11_of 97 = .ok (.invokevirtual 83, 3) := by decide +kernel
theorem dX11_of_100 : decode cX11_of 100 = .ok (.ireturn, 1) := by decide +kernel
theorem dX11_of_101 : decode cX11_of 101 = .ok (.aload_n 0, 1) := by decide +kernel
theorem dX11_of_102 : decode cX11_of 102 = .ok (.getfield 14, 3) := by decide +kernel
theorem dX11_of_105 : decode cX11_of 105 = .ok (.getfield 87, 3) := by decide +kernel
theorem dX11_of_108 : decode cX11_of 108 = .ok (.iload_n 1, 1) := by decide +kernel
theorem dX11_of_109 : decode cX11_of 109 = .ok (.aaload, 1) := by decide +kernel
theorem dX11_of_110 : decode cX11_of 110 = .ok (.iload_n 2, 1) := by decide +kernel
theorem dX11_of_111 : decode cX11_of 111 = .ok (.iaload, 1) := by decide +kernel
theorem dX11_of_112 : decode cX11_of 112 = .ok (.ireturn, 1) := by decide +kernel
theorem dX11_set_0 : decode cX11_set 0 = .ok (.aload_n 0, 1) := by decide +kernel
theorem dX11_set_1 : decode cX11_set 1 = .ok (.getfield 14, 3) := by decide +kernel
theorem dX11_set_4 : decode cX11_set 4 = .ok (.iload_n 1, 1) := by decide +kernel
theorem dX11_set_5 : decode cX11_set 5 = .ok (.invokevirtual 65, 3) := by decide +kernel
theorem dX11_set_8 : decode cX11_set 8 = .ok (.ifCond .eq 11, 3) := by decide +kernel
theorem dX11_set_11 : decode cX11_set 11 = .ok (.iload_n 2, 1) := by decide +kernel
theorem dX11_set_12 : decode cX11_set 12 = .ok (.iconst 2, 1) := by decide +kernel
theorem dX11_set_13 : decode cX11_set 13 = .ok (.invokestatic 53, 3) := by decide +kernel
theorem dX11_set_16 : decode cX11_set 16 = .ok (.ifCond .ne 5, 3) := by decide +kernel
theorem dX11_set_19 : decode cX11_set 19 = .ok (.iconst (-1), 1) := by decide +kernel
theorem dX11_set_20 : decode cX11_set 20 = .ok (.ireturn, 1) := by decide +kernel
theorem dX11_set_21 : decode cX11_set 21 = .ok (.iload_n 2, 1) := by decide +kernel
theorem dX11_set_22 : decode cX11_set 22 = .ok (.ifCond .ne 7, 3) := by decide +kernel
theorem dX11_set_25 : decode cX11_set 25 = .ok (.iconst 2, 1) := by decide +kernel
theorem dX11_set_26 : decode cX11_set 26 = .ok (.goto 13, 3) := by decide +kernel
theorem dX11_set_29 : decode cX11_set 29 = .ok (.iload_n 2, 1) := by decide +kernel
theorem dX11_set_30 : decode cX11_set 30 = .ok (.iconst 1, 1) := by decide +kernel
theorem dX11_set_31 : decode cX11_set 31 = .ok (.if_icmp .ne 7, 3) := by decide +kernel
theorem dX11_set_34 : decode cX11_set 34 = .ok (.iconst 4, 1) := by decide +kernel
theorem dX11_set_35 : decode cX11_set 35 = .ok (.goto 4, 3) := by decide +kernel
theorem dX11_set_38 : decode cX11_set 38 = .ok (.iconst 3, 1) := by decide +kernel
theorem dX11_set_39 : decode cX11_set 39 = .ok (.istore 4, 2) := by decide +kernel
theorem dX11_set_41 : decode cX11_set 41 = .ok (.iload_n 2, 1) := by decide +kernel
theorem dX11_set_42 : decode cX11_set 42 = .ok (.ifCond .ne 8, 3) := by decide +kernel
theorem dX11_set_45 : decode cX11_set 45 = .ok (.bipush 20, 2) := by decide +kernel
theorem dX11_set_47 : decode cX11_set 47 = .ok (.goto 14, 3) := by decide +kernel
theorem dX11_set_50 : decode cX11_set 50 = .ok (.iload_n 2, 1) := by decide +kernel
theorem dX11_set_51 : decode cX11_set 51 = .ok (.iconst 1, 1) := by decide +kernel
theorem dX11_set_52 : decode cX11_set 52 = .ok (.if_icmp .ne 8, 3) := by decide +kernel
theorem dX11_set_55 : decode cX11_set 55 = .ok (.bipush 99, 2) := by decide +kernel
theorem dX11_set_57 : decode cX11_set 57 = .ok (.goto 4, 3) := by decide +kernel
theorem dX11_set_60 : decode cX11_set 60 = .ok (.iconst 3, 1) := by decide +kernel
theorem dX11_set_61 : decode cX11_set 61 = .ok (.istore 5, 2) := by decide +kernel
theorem dX11_set_63 : decode cX11_set 63 = .ok (.iload_n 3, 1) := by decide +kernel
theorem dX11_set_64 : decode cX11_set 64 = .ok (.iload 5, 2) := by decide +kernel
theorem dX11_set_66 : decode cX11_set 66 = .ok (.invokestatic 53, 3) := by decide +kernel
theorem dX11_set_69 : decode cX11_set 69 = .ok (.ifCond .ne 6, 3) := by decide +kernel
theorem dX11_set_72 : decode cX11_set 72 = .ok (.bipush (-2), 2) := by decide +kernel
theorem dX11_set_74 : decode cX11_set 74 = .ok (.ireturn, 1) := by decide +kernel
theorem dX11_set_75 : decode cX11_set 75 = .ok (.aload_n 0, 1) := by decide +kernel
theorem dX11_set_76 : decode cX11_set 76 = .ok (.getfield 14, 3) := by decide +kernel
theorem dX11_set_79 : decode cX11_set 79 = .ok (.getfield 87, 3) := by decide +kernel
theorem dX11_set_82 : decode cX11_set 82 = .ok (.iload_n 1, 1) := by decide +kernel
theorem dX11_set_83 : decode cX11_set 83 = .ok (.aaload, 1) := by decide +kernel
theorem dX11_set_84 : decode cX11_set 84 = .ok (.iload 4, 2) := by decide +kernel
theorem dX11_set_86 : decode cX11_set 86 = .ok (.iload_n 3, 1) := by decide +kernel
theorem dX11_set_87 : decode cX11_set 87 = .ok (.invokestatic 91, 3) := by decide +kernel
theorem dX11_set_90 : decode cX11_set 90 = .ok (.ireturn, 1) := by decide +kernel
theorem dX11_light_0 : decode cX11_light 0 = .ok (.aload_n 0, 1) := by decide +kernel
theorem dX11_light_1 : decode cX11_light 1 = .ok (.getfield 14, 3) := by decide +kernel
theorem dX11_light_4 : decode cX11_light 4 = .ok (.iload_n 1, 1) := by decide +kernel
theorem dX11_light_5 : decode cX11_light 5 = .ok (.invokevirtual 65, 3) := by decide +kernel
theorem dX11_light_8 : decode cX11_light 8 = .ok (.ifCond .ne 5, 3) := by decide +kernel
theorem dX11_light_11 : decode cX11_light 11 = .ok (.iconst (-1), 1) := by decide +kernel
theorem dX11_light_12 : decode cX11_light 12 = .ok (.ireturn, 1) := by decide +kernel
theorem dX11_light_13 : decode cX11_light 13 = .ok (.aload_n 0, 1) := by decide +kernel
theorem dX11_light_14 : decode cX11_light 14 = .ok (.getfield 14, 3) := by decide +kernel
theorem dX11_light_17 : decode cX11_light 17 = .ok (.iload_n 1, 1) := by decide +kernel
theorem dX11_light_18 : decode cX11_light 18 = .ok (.invokevirtual 95, 3) := by decide +kernel
theorem dX11_light_21 : decode cX11_light 21 = .ok (.ifCond .ne 6, 3) := by decide +kernel
theorem dX11_light_24 : decode cX11_light 24 = .ok (.bipush (-3), 2) := by decide +kernel
theorem dX11_light_26 : decode cX11_light 26 = .ok (.ireturn, 1) := by decide +kernel
theorem dX11_light_27 : decode cX11_light 27 = .ok (.aload_n 0, 1) := by decide +kernel
theorem dX11_light_28 : decode cX11_light 28 = .ok (.getfield 14, 3) := by decide +kernel
theorem dX11_light_31 : decode cX11_light 31 = .ok (.iload_n 1, 1) := by decide +kernel
theorem dX11_light_32 : decode cX11_light 32 = .ok (.invokevirtual 98, 3) := by decide +kernel
theorem dX11_light_35 : decode cX11_light 35 = .ok (.ireturn, 1) := by decide +kernel
theorem dX11_grieve_0 : decode cX11_grieve 0 = .ok (.iload_n 1, 1) := by decide +kernel
theorem dX11_grieve_1 : decode cX11_grieve 1 = .ok (.iconst 3, 1) := by decide +kernel
theorem dX11_grieve_2 : decode cX11_grieve 2 = .ok (.invokestatic 53, 3) := by decide +kernel
theorem dX11_grieve_5 : decode cX11_grieve 5 = .ok (.ifCond .ne 5, 3) := by decide +kernel
theorem dX11_grieve_8 : decode cX11_grieve 8 = .ok (.iconst (-1), 1) := by decide +kernel
theorem dX11_grieve_9 : decode cX11_grieve 9 = .ok (.ireturn, 1) := by decide +kernel
theorem dX11_grieve_10 : decode cX11_grieve 10 = .ok (.iload_n 2, 1) := by decide +kernel
theorem dX11_grieve_11 : decode cX11_grieve 11 = .ok (.sipush 999, 3) := by decide +kernel
theorem dX11_grieve_14 : decode cX11_grieve 14 = .ok (.invokestatic 53, 3) := by decide +kernel
theorem dX11_grieve_17 : decode cX11_grieve 17 = .ok (.ifCond .ne 6, 3) := by decide +kernel
theorem dX11_grieve_20 : decode cX11_grieve 20 = .ok (.bipush (-2), 2) := by decide +kernel
theorem dX11_grieve_22 : decode cX11_grieve 22 = .ok (.ireturn, 1) := by decide +kernel
theorem dX11_grieve_23 : decode cX11_grieve 23 = .ok (.aload_n 0, 1) := by decide +kernel
theorem dX11_grieve_24 : decode cX11_grieve 24 = .ok (.getfield 14, 3) := by decide +kernel
theorem dX11_grieve_27 : decode cX11_grieve 27 = .ok (.getfield 101, 3) := by decide +kernel
theorem dX11_grieve_30 : decode cX11_grieve 30 = .ok (.iload_n 1, 1) := by decide +kernel
theorem dX11_grieve_31 : decode cX11_grieve 31 = .ok (.iload_n 2, 1) := by decide +kernel
theorem dX11_grieve_32 : decode cX11_grieve 32 = .ok (.invokestatic 91, 3) := by decide +kernel
theorem dX11_grieve_35 : decode cX11_grieve 35 = .ok (.ireturn, 1) := by decide +kernel
theorem dX11_rain_0 : decode cX11_rain 0 = .ok (.iload_n 1, 1) := by decide +kernel
theorem dX11_rain_1 : decode cX11_rain 1 = .ok (.iconst 3, 1) := by decide +kernel
theorem dX11_rain_2 : decode cX11_rain 2 = .ok (.invokestatic 53, 3) := by decide +kernel
theorem dX11_rain_5 : decode cX11_rain 5 = .ok (.ifCond .ne 5, 3) := by decide +kernel
theorem dX11_rain_8 : decode cX11_rain 8 = .ok (.iconst (-1), 1) := by decide +kernel
theorem dX11_rain_9 : decode cX11_rain 9 = .ok (.ireturn, 1) := by decide +kernel
theorem dX11_rain_10 : decode cX11_rain 10 = .ok (.iload_n 2, 1) := by decide +kernel
theorem dX11_rain_11 : decode cX11_rain 11 = .ok (.bipush 9, 2) := by decide +kernel
theorem dX11_rain_13 : decode cX11_rain 13 = .ok (.invokestatic 53, 3) := by decide +kernel
theorem dX11_rain_16 : decode cX11_rain 16 = .ok (.ifCond .ne 6, 3) := by decide +kernel
theorem dX11_rain_19 : decode cX11_rain 19 = .ok (.bipush (-2), 2) := by decide +kernel
theorem dX11_rain_21 : decode cX11_rain 21 = .ok (.ireturn, 1) := by decide +kernel
theorem dX11_rain_22 : decode cX11_rain 22 = .ok (.aload_n 0, 1) := by decide +kernel
theorem dX11_rain_23 : decode cX11_rain 23 = .ok (.getfield 14, 3) := by decide +kernel
theorem dX11_rain_26 : decode cX11_rain 26 = .ok (.getfield 104, 3) := by decide +kernel
theorem dX11_rain_29 : decode cX11_rain 29 = .ok (.iload_n 1, 1) := by decide +kernel
theorem dX11_rain_30 : decode cX11_rain 30 = .ok (.iload_n 2, 1) := by decide +kernel
theorem dX11_rain_31 : decode cX11_rain 31 = .ok (.invokestatic 91, 3) := by decide +kernel
theorem dX11_rain_34 : decode cX11_rain 34 = .ok (.ireturn, 1) := by decide +kernel
theorem dX11_row_0 : decode cX11_row 0 = .ok (.aload_n 0, 1) := by decide +kernel
theorem dX11_row_1 : decode cX11_row 1 = .ok (.getfield 14, 3) := by decide +kernel
theorem dX11_row_4 : decode cX11_row 4 = .ok (.iload_n 1, 1) := by decide +kernel
theorem dX11_row_5 : decode cX11_row 5 = .ok (.invokevirtual 65, 3) := by decide +kernel
theorem dX11_row_8 : decode cX11_row 8 = .ok (.ifCond .eq 11, 3) := by decide +kernel
theorem dX11_row_11 : decode cX11_row 11 = .ok (.iload_n 2, 1) := by decide +kernel
theorem dX11_row_12 : decode cX11_row 12 = .ok (.iconst 3, 1) := by decide +kernel
theorem dX11_row_13 : decode cX11_row 13 = .ok (.invokestatic 53, 3) := by decide +kernel
theorem dX11_row_16 : decode cX11_row 16 = .ok (.ifCond .ne 5, 3) := by decide +kernel
theorem dX11_row_19 : decode cX11_row 19 = .ok (.iconst (-1), 1) := by decide +kernel
theorem dX11_row_20 : decode cX11_row 20 = .ok (.ireturn, 1) := by decide +kernel
theorem dX11_row_21 : decode cX11_row 21 = .ok (.iload_n 3, 1) := by decide +kernel
theorem dX11_row_22 : decode cX11_row 22 = .ok (.bipush 9, 2) := by decide +kernel
theorem dX11_row_24 : decode cX11_row 24 = .ok (.invokestatic 53, 3) := by decide +kernel
theorem dX11_row_27 : decode cX11_row 27 = .ok (.ifCond .ne 6, 3) := by decide +kernel
theorem dX11_row_30 : decode cX11_row 30 = .ok (.bipush (-2), 2) := by decide +kernel
theorem dX11_row_32 : decode cX11_row 32 = .ok (.ireturn, 1) := by decide +kernel
theorem dX11_row_33 : decode cX11_row 33 = .ok (.aload_n 0, 1) := by decide +kernel
theorem dX11_row_34 : decode cX11_row 34 = .ok (.getfield 14, 3) := by decide +kernel
theorem dX11_row_37 : decode cX11_row 37 = .ok (.getfield 87, 3) := by decide +kernel
theorem dX11_row_40 : decode cX11_row 40 = .ok (.iload_n 1, 1) := by decide +kernel
theorem dX11_row_41 : decode cX11_row 41 = .ok (.aaload, 1) := by decide +kernel
theorem dX11_row_42 : decode cX11_row 42 = .ok (.iconst 0, 1) := by decide +kernel
theorem dX11_row_43 : decode cX11_row 43 = .ok (.iaload, 1) := by decide +kernel
theorem dX11_row_44 : decode cX11_row 44 = .ok (.bipush 6, 2) := by decide +kernel
theorem dX11_row_46 : decode cX11_row 46 = .ok (.if_icmp .eq 6, 3) := by decide +kernel
theorem dX11_row_49 : decode cX11_row 49 = .ok (.bipush (-3), 2) := by decide +kernel
theorem dX11_row_51 : decode cX11_row 51 = .ok (.ireturn, 1) := by decide +kernel
theorem dX11_row_52 : decode cX11_row 52 = .ok (.aload_n 0, 1) := by decide +kernel
theorem dX11_row_53 : decode cX11_row 53 = .ok (.getfield 14, 3) := by decide +kernel
theorem dX11_row_56 : decode cX11_row 56 = .ok (.getfield 87, 3) := by decide +kernel
theorem dX11_row_59 : decode cX11_row 59 = .ok (.iload_n 1, 1) := by decide +kernel
theorem dX11_row_60 : decode cX11_row 60 = .ok (.aaload, 1) := by decide +kernel
theorem dX11_row_61 : decode cX11_row 61 = .ok (.bipush 6, 2) := by decide +kernel
theorem dX11_row_63 : decode cX11_row 63 = .ok (.iload_n 2, 1) := by decide +kernel
theorem dX11_row_64 : decode cX11_row 64 = .ok (.iadd, 1) := by decide +kernel
theorem dX11_row_65 : decode cX11_row 65 = .ok (.iload_n 3, 1) := by decide +kernel
theorem dX11_row_66 : decode cX11_row 66 = .ok (.invokestatic 91, 3) := by decide +kernel
theorem dX11_row_69 : decode cX11_row 69 = .ok (.ireturn, 1) := by decide +kernel
theorem dX11_feed_0 : decode cX11_feed 0 = .ok (.iload_n 1, 1) := by decide +kernel
theorem dX11_feed_1 : decode cX11_feed 1 = .ok (.bipush 127, 2) := by decide +kernel
theorem dX11_feed_3 : decode cX11_feed 3 = .ok (.invokestatic 53, 3) := by decide +kernel
theorem dX11_feed_6 : decode cX11_feed 6 = .ok (.ifCond .ne 6, 3) := by decide +kernel
theorem dX11_feed_9 : decode cX11_feed 9 = .ok (.bipush (-2), 2) := by decide +kernel
theorem dX11_feed_11 : decode cX11_feed 11 = .ok (.ireturn, 1) := by decide +kernel
theorem dX11_feed_12 : decode cX11_feed 12 = .ok (.aload_n 0, 1) := by decide +kernel
theorem dX11_feed_13 : decode cX11_feed 13 = .ok (.getfield 27, 3) := by decide +kernel
theorem dX11_feed_16 : decode cX11_feed 16 = .ok (.getfield 107, 3) := by decide +kernel
theorem dX11_feed_19 : decode cX11_feed 19 = .ok (.bipush 100, 2) := by decide +kernel
theorem dX11_feed_21 : decode cX11_feed 21 = .ok (.if_icmp .lt 6, 3) := by decide +kernel
theorem dX11_feed_24 : decode cX11_feed 24 = .ok (.bipush (-4), 2) := by decide +kernel
theorem dX11_feed_26 : decode cX11_feed 26 = .ok (.ireturn, 1) := by decide +kernel
theorem dX11_feed_27 : decode cX11_feed 27 = .ok (.aload_n 0, 1) := by decide +kernel
theorem dX11_feed_28 : decode cX11_feed 28 = .ok (.getfield 27, 3) := by decide +kernel
theorem dX11_feed_31 : decode cX11_feed 31 = .ok (.getfield 110, 3) := by decide +kernel
theorem dX11_feed_34 : decode cX11_feed 34 = .ok (.aload_n 0, 1) := by decide +kernel
theorem dX11_feed_35 : decode cX11_feed 35 = .ok (.getfield 27, 3) := by decide +kernel
theorem dX11_feed_38 : decode cX11_feed 38 = .ok (.getfield 107, 3) := by decide +kernel
theorem dX11_feed_41 : decode cX11_feed 41 = .ok (.iload_n 1, 1) := by decide +kernel
theorem dX11_feed_42 : decode cX11_feed 42 = .ok (.i2b, 1) := by decide +kernel
theorem dX11_feed_43 : decode cX11_feed 43 = .ok (.bastore, 1) := by decide +kernel
theorem dX11_feed_44 : decode cX11_feed 44 = .ok (.aload_n 0, 1) := by decide +kernel
theorem dX11_feed_45 : decode cX11_feed 45 = .ok (.getfield 27, 3) := by decide +kernel
theorem dX11_feed_48 : decode cX11_feed 48 = .ok (.dup, 1) := by decide +kernel
theorem dX11_feed_49 : decode cX11_feed 49 = .ok (.getfield 107, 3) := by decide +kernel
theorem dX11_feed_52 : decode cX11_feed 52 = .ok (.iconst 1, 1) := by decide +kernel
theorem dX11_feed_53 : decode cX11_feed 53 = .ok (.iadd, 1) := by decide +kernel
theorem dX11_feed_54 : decode cX11_feed 54 = .ok (.putfield 107, 3) := by decide +kernel
theorem dX11_feed_57 : decode cX11_feed 57 = .ok (.aload_n 0, 1) := by decide +kernel
theorem dX11_feed_58 : decode cX11_feed 58 = .ok (.getfield 27, 3) := by decide +kernel
theorem dX11_feed_61 : decode cX11_feed 61 = .ok (.getfield 107, 3) := by decide +kernel
theorem dX11_feed_64 : decode cX11_feed 64 = .ok (.ireturn, 1) := by decide +kernel
theorem dX11_show_0 : decode cX11_show 0 = .ok (.aload_n 0, 1) := by decide +kernel
theorem dX11_show_1 : decode cX11_show 1 = .ok (.getfield 114, 3) := by decide +kernel
theorem dX11_show_4 : decode cX11_show 4 = .ok (.bipush 6, 2) := by decide +kernel
theorem dX11_show_6 : decode cX11_show 6 = .ok (.if_icmp .lt 6, 3) := by decide +kernel
theorem dX11_show_9 : decode cX11_show 9 = .ok (.bipush (-4), 2) := by decide +kernel
theorem dX11_show_11 : decode cX11_show 11 = .ok (.ireturn, 1) := by decide +kernel
theorem dX11_show_12 : decode cX11_show 12 = .ok (.aload_n 0, 1) := by decide +kernel
theorem dX11_show_13 : decode cX11_show 13 = .ok (.getfield 27, 3) := by decide +kernel
theorem dX11_show_16 : decode cX11_show 16 = .ok (.invokevirtual 117, 3) := by decide +kernel
theorem dX11_show_19 : decode cX11_show 19 = .ok (.istore_n 1, 1) := by decide +kernel
theorem dX11_show_20 : decode cX11_show 20 = .ok (.aload_n 0, 1) := by decide +kernel
theorem dX11_show_21 : decode cX11_show 21 = .ok (.getfield 27, 3) := by decide +kernel
theorem dX11_show_24 : decode cX11_show 24 = .ok (.iconst 0, 1) := by decide +kernel
theorem dX11_show_25 : decode cX11_show 25 = .ok (.putfield 107, 3) := by decide +kernel
theorem dX11_show_28 : decode cX11_show 28 = .ok (.iload_n 1, 1) := by decide +kernel
theorem dX11_show_29 : decode cX11_show 29 = .ok (.ifCond .lt 8, 3) := by decide +kernel
theorem dX11_show_32 : decode cX11_show 32 = .ok (.bipush (-10), 2) := by decide +kernel
theorem dX11_show_34 : decode cX11_show 34 = .ok (.iload_n 1, 1) := by decide +kernel
theorem dX11_show_35 : decode cX11_show 35 = .ok (.isub, 1) := by decide +kernel
theorem dX11_show_36 : decode cX11_show 36 = .ok (.ireturn, 1) := by decide +kernel
theorem dX11_show_37 : decode cX11_show 37 = .ok (.aload_n 0, 1) := by decide +kernel
theorem dX11_show_38 : decode cX11_show 38 = .ok (.getfield 14, 3) := by decide +kernel
theorem dX11_show_41 : decode cX11_show 41 = .ok (.aload_n 0, 1) := by decide +kernel
theorem dX11_show_42 : decode cX11_show 42 = .ok (.getfield 27, 3) := by decide +kernel
theorem dX11_show_45 : decode cX11_show 45 = .ok (.invokevirtual 121, 3) := by decide +kernel
theorem dX11_show_48 : decode cX11_show 48 = .ok (.putfield 125, 3) := by decide +kernel
theorem dX11_show_51 : decode cX11_show 51 = .ok (.aload_n 0, 1) := by decide +kernel
theorem dX11_show_52 : decode cX11_show 52 = .ok (.dup, 1) := by decide +kernel
theorem dX11_show_53 : decode cX11_show 53 = .ok (.getfield 114, 3) := by decide +kernel
theorem dX11_show_56 : decode cX11_show 56 = .ok (.iconst 1, 1) := by decide +kernel
theorem dX11_show_57 : decode cX11_show 57 = .ok (.iadd, 1) := by decide +kernel
theorem dX11_show_58 : decode cX11_show 58 = .ok (.putfield 114, 3) := by decide +kernel
theorem dX11_show_61 : decode cX11_show 61 = .ok (.aload_n 0, 1) := by decide +kernel
theorem dX11_show_62 : decode cX11_show 62 = .ok (.getfield 114, 3) := by decide +kernel
theorem dX11_show_65 : decode cX11_show 65 = .ok (.iconst 1, 1) := by decide +kernel
theorem dX11_show_66 : decode cX11_show 66 = .ok (.isub, 1) := by decide +kernel
theorem dX11_show_67 : decode cX11_show 67 = .ok (.ireturn, 1) := by decide +kernel
theorem dX11_told_0 : decode cX11_told 0 = .ok (.iload_n 1, 1) := by decide +kernel
theorem dX11_told_1 : decode cX11_told 1 = .ok (.bipush 10, 2) := by decide +kernel
theorem dX11_told_3 : decode cX11_told 3 = .ok (.invokestatic 129, 3) := by decide +kernel
theorem dX11_told_6 : decode cX11_told 6 = .ok (.istore_n 2, 1) := by decide +kernel
theorem dX11_told_7 : decode cX11_told 7 = .ok (.iload_n 1, 1) := by decide +kernel
theorem dX11_told_8 : decode cX11_told 8 = .ok (.bipush 10, 2) := by decide +kernel
theorem dX11_told_10 : decode cX11_told 10 = .ok (.invokestatic 134, 3) := by decide +kernel
theorem dX11_told_13 : decode cX11_told 13 = .ok (.istore_n 3, 1) := by decide +kernel
theorem dX11_told_14 : decode cX11_told 14 = .ok (.iload_n 2, 1) := by decide +kernel
theorem dX11_told_15 : decode cX11_told 15 = .ok (.tableswitch 88 0 3 #[29, 35, 54, 73], 29) := by decide +kernel
theorem dX11_told_44 : decode cX11_told 44 = .ok (.aload_n 0, 1) := by decide +kernel
theorem dX11_told_45 : decode cX11_told 45 = .ok (.iload_n 3, 1) := by decide +kernel
theorem dX11_told_46 : decode cX11_told 46 = .ok (.invokevirtual 137, 3) := by decide +kernel
theorem dX11_told_49 : decode cX11_told 49 = .ok (.ireturn, 1) := by decide +kernel
theorem dX11_told_50 : decode cX11_told 50 = .ok (.iload_n 3, 1) := by decide +kernel
theorem dX11_told_51 : decode cX11_told 51 = .ok (.iconst 4, 1) := by decide +kernel
theorem dX11_told_52 : decode cX11_told 52 = .ok (.if_icmp .ge 15, 3) := by decide +kernel
theorem dX11_told_55 : decode cX11_told 55 = .ok (.aload_n 0, 1) := by decide +kernel
theorem dX11_told_56 : decode cX11_told 56 = .ok (.getfield 14, 3) := by decide +kernel
theorem dX11_told_59 : decode cX11_told 59 = .ok (.getfield 104, 3) := by decide +kernel
theorem dX11_told_62 : decode cX11_told 62 = .ok (.iload_n 3, 1) := by decide +kernel
theorem dX11_told_63 : decode cX11_told 63 = .ok (.iaload, 1) := by decide +kernel
theorem dX11_told_64 : decode cX11_told 64 = .ok (.goto 4, 3) := by decide +kernel
theorem dX11_told_67 : decode cX11_told 67 = .ok (.iconst (-1), 1) := by decide +kernel
theorem dX11_told_68 : decode cX11_told 68 = .ok (.ireturn, 1) := by decide +kernel
theorem dX11_told_69 : decode cX11_told 69 = .ok (.iload_n 3, 1) := by decide +kernel
theorem dX11_told_70 : decode cX11_told 70 = .ok (.iconst 4, 1) := by decide +kernel
theorem dX11_told_71 : decode cX11_told 71 = .ok (.if_icmp .ge 15, 3) := by decide +kernel
theorem dX11_told_74 : decode cX11_told 74 = .ok (.aload_n 0, 1) := by decide +kernel
theorem dX11_told_75 : decode cX11_told 75 = .ok (.getfield 14, 3) := by decide +kernel
theorem dX11_told_78 : decode cX11_told 78 = .ok (.getfield 101, 3) := by decide +kernel
theorem dX11_told_81 : decode cX11_told 81 = .ok (.iload_n 3, 1) := by decide +kernel
theorem dX11_told_82 : decode cX11_told 82 = .ok (.iaload, 1) := by decide +kernel
theorem dX11_told_83 : decode cX11_told 83 = .ok (.goto 4, 3) := by decide +kernel
theorem dX11_told_86 : decode cX11_told 86 = .ok (.iconst (-1), 1) := by decide +kernel
theorem dX11_told_87 : decode cX11_told 87 = .ok (.ireturn, 1) := by decide +kernel
theorem dX11_told_88 : decode cX11_told 88 = .ok (.iload_n 3, 1) := by decide +kernel
theorem dX11_told_89 : decode cX11_told 89 = .ok (.iconst 4, 1) := by decide +kernel
theorem dX11_told_90 : decode cX11_told 90 = .ok (.if_icmp .ge 11, 3) := by decide +kernel
theorem dX11_told_93 : decode cX11_told 93 = .ok (.aload_n 0, 1) := by decide +kernel
theorem dX11_told_94 : decode cX11_told 94 = .ok (.iload_n 3, 1) := by decide +kernel
theorem dX11_told_95 : decode cX11_told 95 = .ok (.invokevirtual 140, 3) := by decide +kernel
theorem dX11_told_98 : decode cX11_told 98 = .ok (.goto 4, 3) := by decide +kernel
theorem dX11_told_101 : decode cX11_told 101 = .ok (.iconst (-1), 1) := by decide +kernel
theorem dX11_told_102 : decode cX11_told 102 = .ok (.ireturn, 1) := by decide +kernel
theorem dX11_told_103 : decode cX11_told 103 = .ok (.iconst (-1), 1) := by decide +kernel
theorem dX11_told_104 : decode cX11_told 104 = .ok (.ireturn, 1) := by decide +kernel
theorem dX11_toldOfAll_0 : decode cX11_toldOfAll 0 = .ok (.iload_n 1, 1) := by decide +kernel
theorem dX11_toldOfAll_1 : decode cX11_toldOfAll 1 = .ok (.tableswitch 89 0 5 #[39, 47, 55, 63, 71, 80], 39) := by decide +kernel
theorem dX11_toldOfAll_40 : decode cX11_toldOfAll 40 = .ok (.aload_n 0, 1) := by decide +kernel
theorem dX11_toldOfAll_41 : decode cX11_toldOfAll 41 = .ok (.getfield 14, 3) := by decide +kernel
theorem dX11_toldOfAll_44 : decode cX11_toldOfAll 44 = .ok (.getfield 143, 3) := by decide +kernel
theorem dX11_toldOfAll_47 : decode cX11_toldOfAll 47 = .ok (.ireturn, 1) := by decide +kernel
theorem dX11_toldOfAll_48 : decode cX11_toldOfAll 48 = .ok (.aload_n 0, 1) := by decide +kernel
theorem dX11_toldOfAll_49 : decode cX11_toldOfAll 49 = .ok (.getfield 14, 3) := by decide +kernel
theorem dX11_toldOfAll_52 : decode cX11_toldOfAll 52 = .ok (.invokevirtual 146, 3) := by decide +kernel
theorem dX11_toldOfAll_55 : decode cX11_toldOfAll 55 = .ok (.ireturn, 1) := by decide +kernel
theorem dX11_toldOfAll_56 : decode cX11_toldOfAll 56 = .ok (.aload_n 0, 1) := by decide +kernel
theorem dX11_toldOfAll_57 : decode cX11_toldOfAll 57 = .ok (.getfield 14, 3) := by decide +kernel
theorem dX11_toldOfAll_60 : decode cX11_toldOfAll 60 = .ok (.invokevirtual 149, 3) := by decide +kernel
theorem dX11_toldOfAll_63 : decode cX11_toldOfAll 63 = .ok (.ireturn, 1) := by decide +kernel
theorem dX11_toldOfAll_64 : decode cX11_toldOfAll 64 = .ok (.aload_n 0, 1) := by decide +kernel
theorem dX11_toldOfAll_65 : decode cX11_toldOfAll 65 = .ok (.getfield 14, 3) := by decide +kernel
theorem dX11_toldOfAll_68 : decode cX11_toldOfAll 68 = .ok (.invokevirtual 152, 3) := by decide +kernel
theorem dX11_toldOfAll_71 : decode cX11_toldOfAll 71 = .ok (.ireturn, 1) := by decide +kernel
theorem dX11_toldOfAll_72 : decode cX11_toldOfAll 72 = .ok (.aload_n 0, 1) := by decide +kernel
theorem dX11_toldOfAll_73 : decode cX11_toldOfAll 73 = .ok (.getfield 14, 3) := by decide +kernel
theorem dX11_toldOfAll_76 : decode cX11_toldOfAll 76 = .ok (.iconst 0, 1) := by decide +kernel
theorem dX11_toldOfAll_77 : decode cX11_toldOfAll 77 = .ok (.invokevirtual 155, 3) := by decide +kernel
theorem dX11_toldOfAll_80 : decode cX11_toldOfAll 80 = .ok (.ireturn, 1) := by decide +kernel
theorem dX11_toldOfAll_81 : decode cX11_toldOfAll 81 = .ok (.aload_n 0, 1) := by decide +kernel
theorem dX11_toldOfAll_82 : decode cX11_toldOfAll 82 = .ok (.getfield 14, 3) := by decide +kernel
theorem dX11_toldOfAll_85 : decode cX11_toldOfAll 85 = .ok (.iconst 2, 1) := by decide +kernel
theorem dX11_toldOfAll_86 : decode cX11_toldOfAll 86 = .ok (.invokevirtual 155, 3) := by decide +kernel
theorem dX11_toldOfAll_89 : decode cX11_toldOfAll 89 = .ok (.ireturn, 1) := by decide +kernel
theorem dX11_toldOfAll_90 : decode cX11_toldOfAll 90 = .ok (.iconst (-1), 1) := by decide +kernel
theorem dX11_toldOfAll_91 : decode cX11_toldOfAll 91 = .ok (.ireturn, 1) := by decide +kernel
theorem dX11_pass_0 : decode cX11_pass 0 = .ok (.iload_n 1, 1) := by decide +kernel
theorem dX11_pass_1 : decode cX11_pass 1 = .ok (.bipush 60, 2) := by decide +kernel
theorem dX11_pass_3 : decode cX11_pass 3 = .ok (.invokestatic 53, 3) := by decide +kernel
theorem dX11_pass_6 : decode cX11_pass 6 = .ok (.ifCond .ne 6, 3) := by decide +kernel
theorem dX11_pass_9 : decode cX11_pass 9 = .ok (.bipush (-2), 2) := by decide +kernel
theorem dX11_pass_11 : decode cX11_pass 11 = .ok (.ireturn, 1) := by decide +kernel
theorem dX11_pass_12 : decode cX11_pass 12 = .ok (.aload_n 0, 1) := by decide +kernel
theorem dX11_pass_13 : decode cX11_pass 13 = .ok (.getfield 14, 3) := by decide +kernel
theorem dX11_pass_16 : decode cX11_pass 16 = .ok (.getfield 143, 3) := by decide +kernel
theorem dX11_pass_19 : decode cX11_pass 19 = .ok (.iload_n 1, 1) := by decide +kernel
theorem dX11_pass_20 : decode cX11_pass 20 = .ok (.iadd, 1) := by decide +kernel
theorem dX11_pass_21 : decode cX11_pass 21 = .ok (.sipush 9999, 3) := by decide +kernel
theorem dX11_pass_24 : decode cX11_pass 24 = .ok (.if_icmp .le 6, 3) := by decide +kernel
theorem dX11_pass_27 : decode cX11_pass 27 = .ok (.bipush (-3), 2) := by decide +kernel
theorem dX11_pass_29 : decode cX11_pass 29 = .ok (.ireturn, 1) := by decide +kernel
theorem dX11_pass_30 : decode cX11_pass 30 = .ok (.aload_n 0, 1) := by decide +kernel
theorem dX11_pass_31 : decode cX11_pass 31 = .ok (.getfield 14, 3) := by decide +kernel
theorem dX11_pass_34 : decode cX11_pass 34 = .ok (.iload_n 1, 1) := by decide +kernel
theorem dX11_pass_35 : decode cX11_pass 35 = .ok (.invokevirtual 158, 3) := by decide +kernel
theorem dX11_pass_38 : decode cX11_pass 38 = .ok (.aload_n 0, 1) := by decide +kernel
theorem dX11_pass_39 : decode cX11_pass 39 = .ok (.getfield 14, 3) := by decide +kernel
theorem dX11_pass_42 : decode cX11_pass 42 = .ok (.getfield 143, 3) := by decide +kernel
theorem dX11_pass_45 : decode cX11_pass 45 = .ok (.ireturn, 1) := by decide +kernel
theorem dX11_on_0 : decode cX11_on 0 = .ok (.iload_n 2, 1) := by decide +kernel
theorem dX11_on_1 : decode cX11_on 1 = .ok (.bipush 10, 2) := by decide +kernel
theorem dX11_on_3 : decode cX11_on 3 = .ok (.if_icmp .lt 13, 3) := by decide +kernel
theorem dX11_on_6 : decode cX11_on 6 = .ok (.iload_n 2, 1) := by decide +kernel
theorem dX11_on_7 : decode cX11_on 7 = .ok (.bipush 20, 2) := by decide +kernel
theorem dX11_on_9 : decode cX11_on 9 = .ok (.if_icmp .ge 7, 3) := by decide +kernel
theorem dX11_on_12 : decode cX11_on 12 = .ok (.iconst 1, 1) := by decide +kernel
theorem dX11_on_13 : decode cX11_on 13 = .ok (.goto 4, 3) := by decide +kernel
theorem dX11_on_16 : decode cX11_on 16 = .ok (.iconst 0, 1) := by decide +kernel
theorem dX11_on_17 : decode cX11_on 17 = .ok (.istore_n 3, 1) := by decide +kernel
theorem dX11_on_18 : decode cX11_on 18 = .ok (.iload_n 3, 1) := by decide +kernel
theorem dX11_on_19 : decode cX11_on 19 = .ok (.ifCond .eq 10, 3) := by decide +kernel
theorem dX11_on_22 : decode cX11_on 22 = .ok (.iload_n 2, 1) := by decide +kernel
theorem dX11_on_23 : decode cX11_on 23 = .ok (.bipush 10, 2) := by decide +kernel
theorem dX11_on_25 : decode cX11_on 25 = .ok (.isub, 1) := by decide +kernel
theorem dX11_on_26 : decode cX11_on 26 = .ok (.goto 17, 3) := by decide +kernel
theorem dX11_on_29 : decode cX11_on 29 = .ok (.iload_n 2, 1) := by decide +kernel
theorem dX11_on_30 : decode cX11_on 30 = .ok (.bipush 20, 2) := by decide +kernel
theorem dX11_on_32 : decode cX11_on 32 = .ok (.if_icmp .ge 7, 3) := by decide +kernel
theorem dX11_on_35 : decode cX11_on 35 = .ok (.iconst (-1), 1) := by decide +kernel
theorem dX11_on_36 : decode cX11_on 36 = .ok (.goto 7, 3) := by decide +kernel
theorem dX11_on_39 : decode cX11_on 39 = .ok (.iload_n 2, 1) := by decide +kernel
theorem dX11_on_40 : decode cX11_on 40 = .ok (.bipush 20, 2) := by decide +kernel
theorem dX11_on_42 : decode cX11_on 42 = .ok (.isub, 1) := by decide +kernel
theorem dX11_on_43 : decode cX11_on 43 = .ok (.istore 4, 2) := by decide +kernel
theorem dX11_on_45 : decode cX11_on 45 = .ok (.aload_n 0, 1) := by decide +kernel
theorem dX11_on_46 : decode cX11_on 46 = .ok (.getfield 14, 3) := by decide +kernel
theorem dX11_on_49 : decode cX11_on 49 = .ok (.iload 4, 2) := by decide +kernel
theorem dX11_on_51 : decode cX11_on 51 = .ok (.invokevirtual 65, 3) := by decide +kernel
theorem dX11_on_54 : decode cX11_on 54 = .ok (.ifCond .ne 7, 3) := by decide +kernel
theorem dX11_on_57 : decode cX11_on 57 = .ok (.sipush (-10001), 3) := by decide +kernel
theorem dX11_on_60 : decode cX11_on 60 = .ok (.ireturn, 1) := by decide +kernel
theorem dX11_on_61 : decode cX11_on 61 = .ok (.iload_n 1, 1) := by decide +kernel
theorem dX11_on_62 : decode cX11_on 62 = .ok (.bipush 60, 2) := by decide +kernel
theorem dX11_on_64 : decode cX11_on 64 = .ok (.invokestatic 53, 3) := by decide +kernel
theorem dX11_on_67 : decode cX11_on 67 = .ok (.ifCond .ne 6, 3) := by decide +kernel
theorem dX11_on_70 : decode cX11_on 70 = .ok (.bipush (-2), 2) := by decide +kernel
theorem dX11_on_72 : decode cX11_on 72 = .ok (.ireturn, 1) := by decide +kernel
theorem dX11_on_73 : decode cX11_on 73 = .ok (.iload_n 3, 1) := by decide +kernel
theorem dX11_on_74 : decode cX11_on 74 = .ok (.ifCond .ne 11, 3) := by decide +kernel
theorem dX11_on_77 : decode cX11_on 77 = .ok (.aload_n 0, 1) := by decide +kernel
theorem dX11_on_78 : decode cX11_on 78 = .ok (.iload_n 1, 1) := by decide +kernel
theorem dX11_on_79 : decode cX11_on 79 = .ok (.iload 4, 2) := by decide +kernel
theorem dX11_on_81 : decode cX11_on 81 = .ok (.invokevirtual 76, 3) := by decide +kernel
theorem dX11_on_84 : decode cX11_on 84 = .ok (.ireturn, 1) := by decide +kernel
theorem dX11_on_85 : decode cX11_on 85 = .ok (.aload_n 0, 1) := by decide +kernel
theorem dX11_on_86 : decode cX11_on 86 = .ok (.getfield 21, 3) := by decide +kernel
theorem dX11_on_89 : decode cX11_on 89 = .ok (.aload_n 0, 1) := by decide +kernel
theorem dX11_on_90 : decode cX11_on 90 = .ok (.getfield 14, 3) := by decide +kernel
theorem dX11_on_93 : decode cX11_on 93 = .ok (.invokevirtual 162, 3) := by decide +kernel
theorem dX11_on_96 : decode cX11_on 96 = .ok (.aload_n 0, 1) := by decide +kernel
theorem dX11_on_97 : decode cX11_on 97 = .ok (.getfield 21, 3) := by decide +kernel
theorem dX11_on_100 : decode cX11_on 100 = .ok (.iload_n 1, 1) := by decide +kernel
theorem dX11_on_101 : decode cX11_on 101 = .ok (.invokevirtual 158, 3) := by decide +kernel
theorem dX11_on_104 : decode cX11_on 104 = .ok (.aload_n 0, 1) := by decide +kernel
theorem dX11_on_105 : decode cX11_on 105 = .ok (.getfield 21, 3) := by decide +kernel
theorem dX11_on_108 : decode cX11_on 108 = .ok (.getfield 87, 3) := by decide +kernel
theorem dX11_on_111 : decode cX11_on 111 = .ok (.iload 4, 2) := by decide +kernel
theorem dX11_on_113 : decode cX11_on 113 = .ok (.aaload, 1) := by decide +kernel
theorem dX11_on_114 : decode cX11_on 114 = .ok (.iconst 4, 1) := by decide +kernel
theorem dX11_on_115 : decode cX11_on 115 = .ok (.iaload, 1) := by decide +kernel
theorem dX11_on_116 : decode cX11_on 116 = .ok (.ireturn, 1) := by decide +kernel
theorem dX11_best_0 : decode cX11_best 0 = .ok (.iload_n 2, 1) := by decide +kernel
theorem dX11_best_1 : decode cX11_best 1 = .ok (.bipush (-2), 2) := by decide +kernel
theorem dX11_best_3 : decode cX11_best 3 = .ok (.if_icmp .lt 8, 3) := by decide +kernel
theorem dX11_best_6 : decode cX11_best 6 = .ok (.iload_n 2, 1) := by decide +kernel
theorem dX11_best_7 : decode cX11_best 7 = .ok (.iconst 3, 1) := by decide +kernel
theorem dX11_best_8 : decode cX11_best 8 = .ok (.if_icmp .lt 5, 3) := by decide +kernel
theorem dX11_best_11 : decode cX11_best 11 = .ok (.iconst (-1), 1) := by decide +kernel
theorem dX11_best_12 : decode cX11_best 12 = .ok (.ireturn, 1) := by decide +kernel
theorem dX11_best_13 : decode cX11_best 13 = .ok (.iload_n 1, 1) := by decide +kernel
theorem dX11_best_14 : decode cX11_best 14 = .ok (.iconst 1, 1) := by decide +kernel
theorem dX11_best_15 : decode cX11_best 15 = .ok (.if_icmp .lt 8, 3) := by decide +kernel
theorem dX11_best_18 : decode cX11_best 18 = .ok (.iload_n 1, 1) := by decide +kernel
theorem dX11_best_19 : decode cX11_best 19 = .ok (.iconst 3, 1) := by decide +kernel
theorem dX11_best_20 : decode cX11_best 20 = .ok (.if_icmp .le 6, 3) := by decide +kernel
theorem dX11_best_23 : decode cX11_best 23 = .ok (.bipush (-2), 2) := by decide +kernel
theorem dX11_best_25 : decode cX11_best 25 = .ok (.ireturn, 1) := by decide +kernel
theorem dX11_best_26 : decode cX11_best 26 = .ok (.aload_n 0, 1) := by decide +kernel
theorem dX11_best_27 : decode cX11_best 27 = .ok (.iload_n 1, 1) := by decide +kernel
theorem dX11_best_28 : decode cX11_best 28 = .ok (.invokevirtual 166, 3) := by decide +kernel
theorem dX11_best_31 : decode cX11_best 31 = .ok (.istore_n 3, 1) := by decide +kernel
theorem dX11_best_32 : decode cX11_best 32 = .ok (.iload_n 3, 1) := by decide +kernel
theorem dX11_best_33 : decode cX11_best 33 = .ok (.ifCond .lt 8, 3) := by decide +kernel
theorem dX11_best_36 : decode cX11_best 36 = .ok (.iload_n 2, 1) := by decide +kernel
theorem dX11_best_37 : decode cX11_best 37 = .ok (.iload_n 1, 1) := by decide +kernel
theorem dX11_best_38 : decode cX11_best 38 = .ok (.if_icmp .lt 6, 3) := by decide +kernel
theorem dX11_best_41 : decode cX11_best 41 = .ok (.bipush (-5), 2) := by decide +kernel
theorem dX11_best_43 : decode cX11_best 43 = .ok (.ireturn, 1) := by decide +kernel
theorem dX11_best_44 : decode cX11_best 44 = .ok (.aload_n 0, 1) := by decide +kernel
theorem dX11_best_45 : decode cX11_best 45 = .ok (.iload_n 3, 1) := by decide +kernel
theorem dX11_best_46 : decode cX11_best 46 = .ok (.iload_n 1, 1) := by decide +kernel
theorem dX11_best_47 : decode cX11_best 47 = .ok (.invokevirtual 169, 3) := by decide +kernel
theorem dX11_best_50 : decode cX11_best 50 = .ok (.iload_n 2, 1) := by decide +kernel
theorem dX11_best_51 : decode cX11_best 51 = .ok (.ifCond .lt 10, 3) := by decide +kernel
theorem dX11_best_54 : decode cX11_best 54 = .ok (.aload_n 0, 1) := by decide +kernel
theorem dX11_best_55 : decode cX11_best 55 = .ok (.getfield 38, 3) := by decide +kernel
theorem dX11_best_58 : decode cX11_best 58 = .ok (.iload_n 2, 1) := by decide +kernel
theorem dX11_best_59 : decode cX11_best 59 = .ok (.iaload, 1) := by decide +kernel
theorem dX11_best_60 : decode cX11_best 60 = .ok (.ireturn, 1) := by decide +kernel
theorem dX11_best_61 : decode cX11_best 61 = .ok (.aload_n 0, 1) := by decide +kernel
theorem dX11_best_62 : decode cX11_best 62 = .ok (.iload_n 1, 1) := by decide +kernel
theorem dX11_best_63 : decode cX11_best 63 = .ok (.invokevirtual 173, 3) := by decide +kernel
theorem dX11_best_66 : decode cX11_best 66 = .ok (.iload_n 2, 1) := by decide +kernel
theorem dX11_best_67 : decode cX11_best 67 = .ok (.bipush (-2), 2) := by decide +kernel
theorem dX11_best_69 : decode cX11_best 69 = .ok (.if_icmp .ne 16, 3) := by decide +kernel
theorem dX11_best_72 : decode cX11_best 72 = .ok (.aload_n 0, 1) := by decide +kernel
theorem dX11_best_73 : decode cX11_best 73 = .ok (.getfield 21, 3) := by decide +kernel
theorem dX11_best_76 : decode cX11_best 76 = .ok (.invokevirtual 149, 3) := by decide +kernel
theorem dX11_best_79 : decode cX11_best 79 = .ok (.invokestatic 176, 3) := by decide +kernel
theorem dX11_best_82 : decode cX11_best 82 = .ok (.goto 10, 3) := by decide +kernel
theorem dX11_best_85 : decode cX11_best 85 = .ok (.aload_n 0, 1) := by decide +kernel
theorem dX11_best_86 : decode cX11_best 86 = .ok (.getfield 21, 3) := by decide +kernel
theorem dX11_best_89 : decode cX11_best 89 = .ok (.invokevirtual 152, 3) := by decide +kernel
theorem dX11_best_92 : decode cX11_best 92 = .ok (.ireturn, 1) := by decide +kernel
theorem dX11_lightOn_0 : decode cX11_lightOn 0 = .ok (.aload_n 0, 1) := by decide +kernel
theorem dX11_lightOn_1 : decode cX11_lightOn 1 = .ok (.getfield 21, 3) := by decide +kernel
theorem dX11_lightOn_4 : decode cX11_lightOn 4 = .ok (.aload_n 0, 1) := by decide +kernel
theorem dX11_lightOn_5 : decode cX11_lightOn 5 = .ok (.getfield 14, 3) := by decide +kernel
theorem dX11_lightOn_8 : decode cX11_lightOn 8 = .ok (.invokevirtual 162, 3) := by decide +kernel
theorem dX11_lightOn_11 : decode cX11_lightOn 11 = .ok (.aload_n 0, 1) := by decide +kernel
theorem dX11_lightOn_12 : decode cX11_lightOn 12 = .ok (.getfield 21, 3) := by decide +kernel
theorem dX11_lightOn_15 : decode cX11_lightOn 15 = .ok (.iload_n 1, 1) := by decide +kernel
theorem dX11_lightOn_16 : decode cX11_lightOn 16 = .ok (.invokevirtual 158, 3) := by decide +kernel
theorem dX11_lightOn_19 : decode cX11_lightOn 19 = .ok (.aload_n 0, 1) := by decide +kernel
theorem dX11_lightOn_20 : decode cX11_lightOn 20 = .ok (.getfield 21, 3) := by decide +kernel
theorem dX11_lightOn_23 : decode cX11_lightOn 23 = .ok (.iload_n 2, 1) := by decide +kernel
theorem dX11_lightOn_24 : decode cX11_lightOn 24 = .ok (.invokevirtual 69, 3) := by decide +kernel
theorem dX11_lightOn_27 : decode cX11_lightOn 27 = .ok (.ireturn, 1) := by decide +kernel
theorem dX11_brightestMinutes_0 : decode cX11_brightestMinutes 0 = .ok (.aload_n 0, 1) := by decide +kernel
theorem dX11_brightestMinutes_1 : decode cX11_brightestMinutes 1 = .ok (.getfield 21, 3) := by decide +kernel
theorem dX11_brightestMinutes_4 : decode cX11_brightestMinutes 4 = .ok (.aload_n 0, 1) := by decide +kernel
theorem dX11_brightestMinutes_5 : decode cX11_brightestMinutes 5 = .ok (.getfield 14, 3) := by decide +kernel
theorem dX11_brightestMinutes_8 : decode cX11_brightestMinutes 8 = .ok (.invokevirtual 162, 3) := by decide +kernel
theorem dX11_brightestMinutes_11 : decode cX11_brightestMinutes 11 = .ok (.aload_n 0, 1) := by decide +kernel
theorem dX11_brightestMinutes_12 : decode cX11_brightestMinutes 12 = .ok (.getfield 21, 3) := by decide +kernel
theorem dX11_brightestMinutes_15 : decode cX11_brightestMinutes 15 = .ok (.iload_n 1, 1) := by decide +kernel
theorem dX11_brightestMinutes_16 : decode cX11_brightestMinutes 16 = .ok (.invokevirtual 69, 3) := by decide +kernel
theorem dX11_brightestMinutes_19 : decode cX11_brightestMinutes 19 = .ok (.istore_n 2, 1) := by decide +kernel
theorem dX11_brightestMinutes_20 : decode cX11_brightestMinutes 20 = .ok (.iconst 0, 1) := by decide +kernel
theorem dX11_brightestMinutes_21 : decode cX11_brightestMinutes 21 = .ok (.istore_n 3, 1) := by decide +kernel
theorem dX11_brightestMinutes_22 : decode cX11_brightestMinutes 22 = .ok (.iconst 1, 1) := by decide +kernel
theorem dX11_brightestMinutes_23 : decode cX11_brightestMinutes 23 = .ok (.istore 4, 2) := by decide +kernel
theorem dX11_brightestMinutes_25 : decode cX11_brightestMinutes 25 = .ok (.iload 4, 2) := by decide +kernel
theorem dX11_brightestMinutes_27 : decode cX11_brightestMinutes 27 = .ok (.bipush 20, 2) := by decide +kernel
theorem dX11_brightestMinutes_29 : decode cX11_brightestMinutes 29 = .ok (.if_icmp .gt 39, 3) := by decide +kernel
theorem dX11_brightestMinutes_32 : decode cX11_brightestMinutes 32 = .ok (.aload_n 0, 1) := by decide +kernel
theorem dX11_brightestMinutes_33 : decode cX11_brightestMinutes 33 = .ok (.getfield 21, 3) := by decide +kernel
theorem dX11_brightestMinutes_36 : decode cX11_brightestMinutes 36 = .ok (.iconst 1, 1) := by decide +kernel
theorem dX11_brightestMinutes_37 : decode cX11_brightestMinutes 37 = .ok (.invokevirtual 158, 3) := by decide +kernel
theorem dX11_brightestMinutes_40 : decode cX11_brightestMinutes 40 = .ok (.aload_n 0, 1) := by decide +kernel
theorem dX11_brightestMinutes_41 : decode cX11_brightestMinutes 41 = .ok (.getfield 21, 3) := by decide +kernel
theorem dX11_brightestMinutes_44 : decode cX11_brightestMinutes 44 = .ok (.iload_n 1, 1) := by decide +kernel
theorem dX11_brightestMinutes_45 : decode cX11_brightestMinutes 45 = .ok (.invokevirtual 69, 3) := by decide +kernel
theorem dX11_brightestMinutes_48 : decode cX11_brightestMinutes 48 = .ok (.istore 5, 2) := by decide +kernel
theorem dX11_brightestMinutes_50 : decode cX11_brightestMinutes 50 = .ok (.iload 5, 2) := by decide +kernel
theorem dX11_brightestMinutes_52 : decode cX11_brightestMinutes 52 = .ok (.iload_n 2, 1) := by decide +kernel
theorem dX11_brightestMinutes_53 : decode cX11_brightestMinutes 53 = .ok (.if_icmp .le 9, 3) := by decide +kernel
theorem dX11_brightestMinutes_56 : decode cX11_brightestMinutes 56 = .ok (.iload 5, 2) := by decide +kernel
theorem dX11_brightestMinutes_58 : decode cX11_brightestMinutes 58 = .ok (.istore_n 2, 1) := by decide +kernel
theorem dX11_brightestMinutes_59 : decode cX11_brightestMinutes 59 = .ok (.iload 4, 2) := by decide +kernel
theorem dX11_brightestMinutes_61 : decode cX11_brightestMinutes 61 = .ok (.istore_n 3, 1) := by decide +kernel
theorem dX11_brightestMinutes_62 : decode cX11_brightestMinutes 62 = .ok (.iinc 4 1, 3) := by decide +kernel
theorem dX11_brightestMinutes_65 : decode cX11_brightestMinutes 65 = .ok (.goto (-40), 3) := by decide +kernel
theorem dX11_brightestMinutes_68 : decode cX11_brightestMinutes 68 = .ok (.iload_n 3, 1) := by decide +kernel
theorem dX11_brightestMinutes_69 : decode cX11_brightestMinutes 69 = .ok (.ireturn, 1) := by decide +kernel
theorem dX11_bestRow_0 : decode cX11_bestRow 0 = .ok (.iconst 1, 1) := by decide +kernel
theorem dX11_bestRow_1 : decode cX11_bestRow 1 = .ok (.istore_n 2, 1) := by decide +kernel
theorem dX11_bestRow_2 : decode cX11_bestRow 2 = .ok (.iconst 0, 1) := by decide +kernel
theorem dX11_bestRow_3 : decode cX11_bestRow 3 = .ok (.istore_n 3, 1) := by decide +kernel
theorem dX11_bestRow_4 : decode cX11_bestRow 4 = .ok (.iload_n 3, 1) := by decide +kernel
theorem dX11_bestRow_5 : decode cX11_bestRow 5 = .ok (.iload_n 1, 1) := by decide +kernel
theorem dX11_bestRow_6 : decode cX11_bestRow 6 = .ok (.if_icmp .ge 14, 3) := by decide +kernel
theorem dX11_bestRow_9 : decode cX11_bestRow 9 = .ok (.iload_n 2, 1) := by decide +kernel
theorem dX11_bestRow_10 : decode cX11_bestRow 10 = .ok (.bipush 6, 2) := by decide +kernel
theorem dX11_bestRow_12 : decode cX11_bestRow 12 = .ok (.imul, 1) := by decide +kernel
theorem dX11_bestRow_13 : decode cX11_bestRow 13 = .ok (.istore_n 2, 1) := by decide +kernel
theorem dX11_bestRow_14 : decode cX11_bestRow 14 = .ok (.iinc 3 1, 3) := by decide +kernel
theorem dX11_bestRow_17 : decode cX11_bestRow 17 = .ok (.goto (-13), 3) := by decide +kernel
theorem dX11_bestRow_20 : decode cX11_bestRow 20 = .ok (.bipush (-5), 2) := by decide +kernel
theorem dX11_bestRow_22 : decode cX11_bestRow 22 = .ok (.istore_n 3, 1) := by decide +kernel
theorem dX11_bestRow_23 : decode cX11_bestRow 23 = .ok (.ldc 181, 2) := by decide +kernel
theorem dX11_bestRow_25 : decode cX11_bestRow 25 = .ok (.istore 4, 2) := by decide +kernel
theorem dX11_bestRow_27 : decode cX11_bestRow 27 = .ok (.iconst 0, 1) := by decide +kernel
theorem dX11_bestRow_28 : decode cX11_bestRow 28 = .ok (.istore 5, 2) := by decide +kernel
theorem dX11_bestRow_30 : decode cX11_bestRow 30 = .ok (.iload 5, 2) := by decide +kernel
theorem dX11_bestRow_32 : decode cX11_bestRow 32 = .ok (.iload_n 2, 1) := by decide +kernel
theorem dX11_bestRow_33 : decode cX11_bestRow 33 = .ok (.if_icmp .ge 52, 3) := by decide +kernel
theorem dX11_bestRow_36 : decode cX11_bestRow 36 = .ok (.aload_n 0, 1) := by decide +kernel
theorem dX11_bestRow_37 : decode cX11_bestRow 37 = .ok (.iload 5, 2) := by decide +kernel
theorem dX11_bestRow_39 : decode cX11_bestRow 39 = .ok (.iload_n 1, 1) := by decide +kernel
theorem dX11_bestRow_40 : decode cX11_bestRow 40 = .ok (.invokevirtual 169, 3) := by decide +kernel
theorem dX11_bestRow_43 : decode cX11_bestRow 43 = .ok (.aload_n 0, 1) := by decide +kernel
theorem dX11_bestRow_44 : decode cX11_bestRow 44 = .ok (.iload_n 1, 1) := by decide +kernel
theorem dX11_bestRow_45 : decode cX11_bestRow 45 = .ok (.invokevirtual 182, 3) := by decide +kernel
theorem dX11_bestRow_48 : decode cX11_bestRow 48 = .ok (.ifCond .eq 31, 3) := by decide +kernel
theorem dX11_bestRow_51 : decode cX11_bestRow 51 = .ok (.aload_n 0, 1) := by decide +kernel
theorem dX11_bestRow_52 : decode cX11_bestRow 52 = .ok (.iload_n 1, 1) := by decide +kernel
theorem dX11_bestRow_53 : decode cX11_bestRow 53 = .ok (.invokevirtual 173, 3) := by decide +kernel
theorem dX11_bestRow_56 : decode cX11_bestRow 56 = .ok (.aload_n 0, 1) := by decide +kernel
theorem dX11_bestRow_57 : decode cX11_bestRow 57 = .ok (.getfield 21, 3) := by decide +kernel
theorem dX11_bestRow_60 : decode cX11_bestRow 60 = .ok (.invokevirtual 185, 3) := by decide +kernel
theorem dX11_bestRow_63 : decode cX11_bestRow 63 = .ok (.istore 6, 2) := by decide +kernel
theorem dX11_bestRow_65 : decode cX11_bestRow 65 = .ok (.iload 6, 2) := by decide +kernel
theorem dX11_bestRow_67 : decode cX11_bestRow 67 = .ok (.iload 4, 2) := by decide +kernel
theorem dX11_bestRow_69 : decode cX11_bestRow 69 = .ok (.if_icmp .le 10, 3) := by decide +kernel
theorem dX11_bestRow_72 : decode cX11_bestRow 72 = .ok (.iload 6, 2) := by decide +kernel
theorem dX11_bestRow_74 : decode cX11_bestRow 74 = .ok (.istore 4, 2) := by decide +kernel
theorem dX11_bestRow_76 : decode cX11_bestRow 76 = .ok (.iload 5, 2) := by decide +kernel
theorem dX11_bestRow_78 : decode cX11_bestRow 78 = .ok (.istore_n 3, 1) := by decide +kernel
theorem dX11_bestRow_79 : decode cX11_bestRow 79 = .ok (.iinc 5 1, 3) := by decide +kernel
theorem dX11_bestRow_82 : decode cX11_bestRow 82 = .ok (.goto (-52), 3) := by decide +kernel
theorem dX11_bestRow_85 : decode cX11_bestRow 85 = .ok (.iload_n 3, 1) := by decide +kernel
theorem dX11_bestRow_86 : decode cX11_bestRow 86 = .ok (.ireturn, 1) := by decide +kernel
theorem dX11_orderOf_0 : decode cX11_orderOf 0 = .ok (.iload_n 1, 1) := by decide +kernel
theorem dX11_orderOf_1 : decode cX11_orderOf 1 = .ok (.istore_n 3, 1) := by decide +kernel
theorem dX11_orderOf_2 : decode cX11_orderOf 2 = .ok (.iload_n 2, 1) := by decide +kernel
theorem dX11_orderOf_3 : decode cX11_orderOf 3 = .ok (.iconst 1, 1) := by decide +kernel
theorem dX11_orderOf_4 : decode cX11_orderOf 4 = .ok (.isub, 1) := by decide +kernel
theorem dX11_orderOf_5 : decode cX11_orderOf 5 = .ok (.istore 4, 2) := by decide +kernel
theorem dX11_orderOf_7 : decode cX11_orderOf 7 = .ok (.iload 4, 2) := by decide +kernel
theorem dX11_orderOf_9 : decode cX11_orderOf 9 = .ok (.ifCond .lt 25, 3) := by decide +kernel
theorem dX11_orderOf_12 : decode cX11_orderOf 12 = .ok (.aload_n 0, 1) := by decide +kernel
theorem dX11_orderOf_13 : decode cX11_orderOf 13 = .ok (.getfield 38, 3) := by decide +kernel
theorem dX11_orderOf_16 : decode cX11_orderOf 16 = .ok (.iload 4, 2) := by decide +kernel
theorem dX11_orderOf_18 : decode cX11_orderOf 18 = .ok (.iload_n 3, 1) := by decide +kernel
theorem dX11_orderOf_19 : decode cX11_orderOf 19 = .ok (.bipush 6, 2) := by decide +kernel
theorem dX11_orderOf_21 : decode cX11_orderOf 21 = .ok (.irem, 1) := by decide +kernel
theorem dX11_orderOf_22 : decode cX11_orderOf 22 = .ok (.iastore, 1) := by decide +kernel
theorem dX11_orderOf_23 : decode cX11_orderOf 23 = .ok (.iload_n 3, 1) := by decide +kernel
theorem dX11_orderOf_24 : decode cX11_orderOf 24 = .ok (.bipush 6, 2) := by decide +kernel
theorem dX11_orderOf_26 : decode cX11_orderOf 26 = .ok (.idiv, 1) := by decide +kernel
theorem dX11_orderOf_27 : decode cX11_orderOf 27 = .ok (.istore_n 3, 1) := by decide +kernel
theorem dX11_orderOf_28 : decode cX11_orderOf 28 = .ok (.iinc 4 (-1), 3) := by decide +kernel
theorem dX11_orderOf_31 : decode cX11_orderOf 31 = .ok (.goto (-24), 3) := by decide +kernel
theorem dX11_orderOf_34 : decode cX11_orderOf 34 = .ok (.return_, 1) := by decide +kernel
theorem dX11_canLightOrder_0 : decode cX11_canLightOrder 0 = .ok (.aload_n 0, 1) := by decide +kernel
theorem dX11_canLightOrder_1 : decode cX11_canLightOrder 1 = .ok (.getfield 14, 3) := by decide +kernel
theorem dX11_canLightOrder_4 : decode cX11_canLightOrder 4 = .ok (.iconst 0, 1) := by decide +kernel
theorem dX11_canLightOrder_5 : decode cX11_canLightOrder 5 = .ok (.invokevirtual 155, 3) := by decide +kernel
theorem dX11_canLightOrder_8 : decode cX11_canLightOrder 8 = .ok (.istore_n 2, 1) := by decide +kernel
theorem dX11_canLightOrder_9 : decode cX11_canLightOrder 9 = .ok (.iconst 0, 1) := by decide +kernel
theorem dX11_canLightOrder_10 : decode cX11_canLightOrder 10 = .ok (.istore_n 3, 1) := by decide +kernel
theorem dX11_canLightOrder_11 : decode cX11_canLightOrder 11 = .ok (.iload_n 3, 1) := by decide +kernel
theorem dX11_canLightOrder_12 : decode cX11_canLightOrder 12 = .ok (.iload_n 1, 1) := by decide +kernel
theorem dX11_canLightOrder_13 : decode cX11_canLightOrder 13 = .ok (.if_icmp .ge 33, 3) := by decide +kernel
theorem dX11_canLightOrder_16 : decode cX11_canLightOrder 16 = .ok (.iconst 1, 1) := by decide +kernel
theorem dX11_canLightOrder_17 : decode cX11_canLightOrder 17 = .ok (.aload_n 0, 1) := by decide +kernel
theorem dX11_canLightOrder_18 : decode cX11_canLightOrder 18 = .ok (.getfield 38, 3) := by decide +kernel
theorem dX11_canLightOrder_21 : decode cX11_canLightOrder 21 = .ok (.iload_n 3, 1) := by decide +kernel
theorem dX11_canLightOrder_22 : decode cX11_canLightOrder 22 = .ok (.iaload, 1) := by decide +kernel
theorem dX11_canLightOrder_23 : decode cX11_canLightOrder 23 = .ok (.ishl, 1) := by decide +kernel
theorem dX11_canLightOrder_24 : decode cX11_canLightOrder 24 = .ok (.istore 4, 2) := by decide +kernel
theorem dX11_canLightOrder_26 : decode cX11_canLightOrder 26 = .ok (.iload_n 2, 1) := by decide +kernel
theorem dX11_canLightOrder_27 : decode cX11_canLightOrder 27 = .ok (.iload 4, 2) := by decide +kernel
theorem dX11_canLightOrder_29 : decode cX11_canLightOrder 29 = .ok (.iand, 1) := by decide +kernel
theorem dX11_canLightOrder_30 : decode cX11_canLightOrder 30 = .ok (.ifCond .ne 5, 3) := by decide +kernel
theorem dX11_canLightOrder_33 : decode cX11_canLightOrder 33 = .ok (.iconst 0, 1) := by decide +kernel
theorem dX11_canLightOrder_34 : decode cX11_canLightOrder 34 = .ok (.ireturn, 1) := by decide +kernel
theorem dX11_canLightOrder_35 : decode cX11_canLightOrder 35 = .ok (.iload_n 2, 1) := by decide +kernel
theorem dX11_canLightOrder_36 : decode cX11_canLightOrder 36 = .ok (.iload 4, 2) := by decide +kernel
theorem dX11_canLightOrder_38 : decode cX11_canLightOrder 38 = .ok (.ixor, 1) := by decide +kernel
theorem dX11_canLightOrder_39 : decode cX11_canLightOrder 39 = .ok (.istore_n 2, 1) := by decide +kernel
theorem dX11_canLightOrder_40 : decode cX11_canLightOrder 40 = .ok (.iinc 3 1, 3) := by decide +kernel
theorem dX11_canLightOrder_43 : decode cX11_canLightOrder 43 = .ok (.goto (-32), 3) := by decide +kernel
theorem dX11_canLightOrder_46 : decode cX11_canLightOrder 46 = .ok (.iconst 1, 1) := by decide +kernel
theorem dX11_canLightOrder_47 : decode cX11_canLightOrder 47 = .ok (.ireturn, 1) := by decide +kernel
theorem dX11_tryOrder_0 : decode cX11_tryOrder 0 = .ok (.aload_n 0, 1) := by decide +kernel
theorem dX11_tryOrder_1 : decode cX11_tryOrder 1 = .ok (.getfield 21, 3) := by decide +kernel
theorem dX11_tryOrder_4 : decode cX11_tryOrder 4 = .ok (.aload_n 0, 1) := by decide +kernel
theorem dX11_tryOrder_5 : decode cX11_tryOrder 5 = .ok (.getfield 14, 3) := by decide +kernel
theorem dX11_tryOrder_8 : decode cX11_tryOrder 8 = .ok (.invokevirtual 162, 3) := by decide +kernel
theorem dX11_tryOrder_11 : decode cX11_tryOrder 11 = .ok (.iconst 0, 1) := by decide +kernel
theorem dX11_tryOrder_12 : decode cX11_tryOrder 12 = .ok (.istore_n 2, 1) := by decide +kernel
theorem dX11_tryOrder_13 : decode cX11_tryOrder 13 = .ok (.iload_n 2, 1) := by decide +kernel
theorem dX11_tryOrder_14 : decode cX11_tryOrder 14 = .ok (.iload_n 1, 1) := by decide +kernel
theorem dX11_tryOrder_15 : decode cX11_tryOrder 15 = .ok (.if_icmp .ge 31, 3) := by decide +kernel
theorem dX11_tryOrder_18 : decode cX11_tryOrder 18 = .ok (.aload_n 0, 1) := by decide +kernel
theorem dX11_tryOrder_19 : decode cX11_tryOrder 19 = .ok (.getfield 21, 3) := by decide +kernel
theorem dX11_tryOrder_22 : decode cX11_tryOrder 22 = .ok (.aload_n 0, 1) := by decide +kernel
theorem dX11_tryOrder_23 : decode cX11_tryOrder 23 = .ok (.getfield 38, 3) := by decide +kernel
theorem dX11_tryOrder_26 : decode cX11_tryOrder 26 = .ok (.iload_n 2, 1) := by decide +kernel
theorem dX11_tryOrder_27 : decode cX11_tryOrder 27 = .ok (.iaload, 1) := by decide +kernel
theorem dX11_tryOrder_28 : decode cX11_tryOrder 28 = .ok (.invokevirtual 98, 3) := by decide +kernel
theorem dX11_tryOrder_31 : decode cX11_tryOrder 31 = .ok (.pop, 1) := by decide +kernel
theorem dX11_tryOrder_32 : decode cX11_tryOrder 32 = .ok (.aload_n 0, 1) := by decide +kernel
theorem dX11_tryOrder_33 : decode cX11_tryOrder 33 = .ok (.getfield 21, 3) := by decide +kernel
theorem dX11_tryOrder_36 : decode cX11_tryOrder 36 = .ok (.iconst 1, 1) := by decide +kernel
theorem dX11_tryOrder_37 : decode cX11_tryOrder 37 = .ok (.invokevirtual 158, 3) := by decide +kernel
theorem dX11_tryOrder_40 : decode cX11_tryOrder 40 = .ok (.iinc 2 1, 3) := by decide +kernel
theorem dX11_tryOrder_43 : decode cX11_tryOrder 43 = .ok (.goto (-30), 3) := by decide +kernel
theorem dX11_tryOrder_46 : decode cX11_tryOrder 46 = .ok (.return_, 1) := by decide +kernel
theorem dX11_enoughFor_0 : decode cX11_enoughFor 0 = .ok (.aload_n 0, 1) := by decide +kernel
theorem dX11_enoughFor_1 : decode cX11_enoughFor 1 = .ok (.getfield 14, 3) := by decide +kernel
theorem dX11_enoughFor_4 : decode cX11_enoughFor 4 = .ok (.iconst 0, 1) := by decide +kernel
theorem dX11_enoughFor_5 : decode cX11_enoughFor 5 = .ok (.invokevirtual 155, 3) := by decide +kernel
theorem dX11_enoughFor_8 : decode cX11_enoughFor 8 = .ok (.istore_n 2, 1) := by decide +kernel
theorem dX11_enoughFor_9 : decode cX11_enoughFor 9 = .ok (.bipush (-5), 2) := by decide +kernel
theorem dX11_enoughFor_11 : decode cX11_enoughFor 11 = .ok (.istore_n 3, 1) := by decide +kernel
theorem dX11_enoughFor_12 : decode cX11_enoughFor 12 = .ok (.bipush 7, 2) := by decide +kernel
theorem dX11_enoughFor_14 : decode cX11_enoughFor 14 = .ok (.istore 4, 2) := by decide +kernel
theorem dX11_enoughFor_16 : decode cX11_enoughFor 16 = .ok (.iconst 0, 1) := by decide +kernel
theorem dX11_enoughFor_17 : decode cX11_enoughFor 17 = .ok (.istore 5, 2) := by decide +kernel
theorem dX11_enoughFor_19 : decode cX11_enoughFor 19 = .ok (.iload 5, 2) := by decide +kernel
theorem dX11_enoughFor_21 : decode cX11_enoughFor 21 = .ok (.bipush 64, 2) := by decide +kernel
theorem dX11_enoughFor_23 : decode cX11_enoughFor 23 = .ok (.if_icmp .ge 71, 3) := by decide +kernel
theorem dX11_enoughFor_26 : decode cX11_enoughFor 26 = .ok (.iload 5, 2) := by decide +kernel
theorem dX11_enoughFor_28 : decode cX11_enoughFor 28 = .ok (.invokestatic 176, 3) := by decide +kernel
theorem dX11_enoughFor_31 : decode cX11_enoughFor 31 = .ok (.istore 6, 2) := by decide +kernel
theorem dX11_enoughFor_33 : decode cX11_enoughFor 33 = .ok (.iload 5, 2) := by decide +kernel
theorem dX11_enoughFor_35 : decode cX11_enoughFor 35 = .ok (.iload_n 2, 1) := by decide +kernel
theorem dX11_enoughFor_36 : decode cX11_enoughFor 36 = .ok (.iconst (-1), 1) := by decide +kernel
theorem dX11_enoughFor_37 : decode cX11_enoughFor 37 = .ok (.ixor, 1) := by decide +kernel
theorem dX11_enoughFor_38 : decode cX11_enoughFor 38 = .ok (.iand, 1) := by decide +kernel
theorem dX11_enoughFor_39 : decode cX11_enoughFor 39 = .ok (.ifCond .ne 49, 3) := by decide +kernel
theorem dX11_enoughFor_42 : decode cX11_enoughFor 42 = .ok (.iload 6, 2) := by decide +kernel
theorem dX11_enoughFor_44 : decode cX11_enoughFor 44 = .ok (.iload 4, 2) := by decide +kernel
theorem dX11_enoughFor_46 : decode cX11_enoughFor 46 = .ok (.if_icmp .ge 42, 3) := by decide +kernel
theorem dX11_enoughFor_49 : decode cX11_enoughFor 49 = .ok (.aload_n 0, 1) := by decide +kernel
theorem dX11_enoughFor_50 : decode cX11_enoughFor 50 = .ok (.getfield 21, 3) := by decide +kernel
theorem dX11_enoughFor_53 : decode cX11_enoughFor 53 = .ok (.aload_n 0, 1) := by decide +kernel
theorem dX11_enoughFor_54 : decode cX11_enoughFor 54 = .ok (.getfield 14, 3) := by decide +kernel
theorem dX11_enoughFor_57 : decode cX11_enoughFor 57 = .ok (.invokevirtual 162, 3) := by decide +kernel
theorem dX11_enoughFor_60 : decode cX11_enoughFor 60 = .ok (.aload_n 0, 1) := by decide +kernel
theorem dX11_enoughFor_61 : decode cX11_enoughFor 61 = .ok (.getfield 21, 3) := by decide +kernel
theorem dX11_enoughFor_64 : decode cX11_enoughFor 64 = .ok (.iload 5, 2) := by decide +kernel
theorem dX11_enoughFor_66 : decode cX11_enoughFor 66 = .ok (.invokevirtual 188, 3) := by decide +kernel
theorem dX11_enoughFor_69 : decode cX11_enoughFor 69 = .ok (.aload_n 0, 1) := by decide +kernel
theorem dX11_enoughFor_70 : decode cX11_enoughFor 70 = .ok (.getfield 21, 3) := by decide +kernel
theorem dX11_enoughFor_73 : decode cX11_enoughFor 73 = .ok (.getfield 101, 3) := by decide +kernel
theorem dX11_enoughFor_76 : decode cX11_enoughFor 76 = .ok (.iload_n 1, 1) := by decide +kernel
theorem dX11_enoughFor_77 : decode cX11_enoughFor 77 = .ok (.iaload, 1) := by decide +kernel
theorem dX11_enoughFor_78 : decode cX11_enoughFor 78 = .ok (.ifCond .ne 10, 3) := by decide +kernel
theorem dX11_enoughFor_81 : decode cX11_enoughFor 81 = .ok (.iload 5, 2) := by decide +kernel
theorem dX11_enoughFor_83 : decode cX11_enoughFor 83 = .ok (.istore_n 3, 1) := by decide +kernel
theorem dX11_enoughFor_84 : decode cX11_enoughFor 84 = .ok (.iload 6, 2) := by decide +kernel
theorem dX11_enoughFor_86 : decode cX11_enoughFor 86 = .ok (.istore 4, 2) := by decide +kernel
theorem dX11_enoughFor_88 : decode cX11_enoughFor 88 = .ok (.iinc 5 1, 3) := by decide +kernel
theorem dX11_enoughFor_91 : decode cX11_enoughFor 91 = .ok (.goto (-72), 3) := by decide +kernel
theorem dX11_enoughFor_94 : decode cX11_enoughFor 94 = .ok (.iload_n 3, 1) := by decide +kernel
theorem dX11_enoughFor_95 : decode cX11_enoughFor 95 = .ok (.ireturn, 1) := by decide +kernel
theorem dX11_giftTo_0 : decode cX11_giftTo 0 = .ok (.iconst 0, 1) := by decide +kernel
theorem dX11_giftTo_1 : decode cX11_giftTo 1 = .ok (.istore_n 2, 1) := by decide +kernel
theorem dX11_giftTo_2 : decode cX11_giftTo 2 = .ok (.ldc 181, 2) := by decide +kernel
theorem dX11_giftTo_4 : decode cX11_giftTo 4 = .ok (.istore_n 3, 1) := by decide +kernel
theorem dX11_giftTo_5 : decode cX11_giftTo 5 = .ok (.iconst 0, 1) := by decide +kernel
theorem dX11_giftTo_6 : decode cX11_giftTo 6 = .ok (.istore 4, 2) := by decide +kernel
theorem dX11_giftTo_8 : decode cX11_giftTo 8 = .ok (.iload 4, 2) := by decide +kernel
theorem dX11_giftTo_10 : decode cX11_giftTo 10 = .ok (.iconst 4, 1) := by decide +kernel
theorem dX11_giftTo_11 : decode cX11_giftTo 11 = .ok (.if_icmp .ge 69, 3) := by decide +kernel
theorem dX11_giftTo_14 : decode cX11_giftTo 14 = .ok (.aload_n 0, 1) := by decide +kernel
theorem dX11_giftTo_15 : decode cX11_giftTo 15 = .ok (.getfield 21, 3) := by decide +kernel
theorem dX11_giftTo_18 : decode cX11_giftTo 18 = .ok (.aload_n 0, 1) := by decide +kernel
theorem dX11_giftTo_19 : decode cX11_giftTo 19 = .ok (.getfield 14, 3) := by decide +kernel
theorem dX11_giftTo_22 : decode cX11_giftTo 22 = .ok (.invokevirtual 162, 3) := by decide +kernel
theorem dX11_giftTo_25 : decode cX11_giftTo 25 = .ok (.aload_n 0, 1) := by decide +kernel
theorem dX11_giftTo_26 : decode cX11_giftTo 26 = .ok (.getfield 21, 3) := by decide +kernel
theorem dX11_giftTo_29 : decode cX11_giftTo 29 = .ok (.getfield 87, 3) := by decide +kernel
theorem dX11_giftTo_32 : decode cX11_giftTo 32 = .ok (.iload_n 1, 1) := by decide +kernel
theorem dX11_giftTo_33 : decode cX11_giftTo 33 = .ok (.aaload, 1) := by decide +kernel
theorem dX11_giftTo_34 : decode cX11_giftTo 34 = .ok (.iconst 3, 1) := by decide +kernel
theorem dX11_giftTo_35 : decode cX11_giftTo 35 = .ok (.iload 4, 2) := by decide +kernel
theorem dX11_giftTo_37 : decode cX11_giftTo 37 = .ok (.iastore, 1) := by decide +kernel
theorem dX11_giftTo_38 : decode cX11_giftTo 38 = .ok (.aload_n 0, 1) := by decide +kernel
theorem dX11_giftTo_39 : decode cX11_giftTo 39 = .ok (.getfield 21, 3) := by decide +kernel
theorem dX11_giftTo_42 : decode cX11_giftTo 42 = .ok (.aload_n 0, 1) := by decide +kernel
theorem dX11_giftTo_43 : decode cX11_giftTo 43 = .ok (.getfield 14, 3) := by decide +kernel
theorem dX11_giftTo_46 : decode cX11_giftTo 46 = .ok (.iconst 0, 1) := by decide +kernel
theorem dX11_giftTo_47 : decode cX11_giftTo 47 = .ok (.invokevirtual 155, 3) := by decide +kernel
theorem dX11_giftTo_50 : decode cX11_giftTo 50 = .ok (.invokevirtual 188, 3) := by decide +kernel
theorem dX11_giftTo_53 : decode cX11_giftTo 53 = .ok (.aload_n 0, 1) := by decide +kernel
theorem dX11_giftTo_54 : decode cX11_giftTo 54 = .ok (.getfield 21, 3) := by decide +kernel
theorem dX11_giftTo_57 : decode cX11_giftTo 57 = .ok (.invokevirtual 185, 3) := by decide +kernel
theorem dX11_giftTo_60 : decode cX11_giftTo 60 = .ok (.istore 5, 2) := by decide +kernel
theorem dX11_giftTo_62 : decode cX11_giftTo 62 = .ok (.iload 5, 2) := by decide +kernel
theorem dX11_giftTo_64 : decode cX11_giftTo 64 = .ok (.iload_n 3, 1) := by decide +kernel
theorem dX11_giftTo_65 : decode cX11_giftTo 65 = .ok (.if_icmp .le 9, 3) := by decide +kernel
theorem dX11_giftTo_68 : decode cX11_giftTo 68 = .ok (.iload 5, 2) := by decide +kernel
theorem dX11_giftTo_70 : decode cX11_giftTo 70 = .ok (.istore_n 3, 1) := by decide +kernel
theorem dX11_giftTo_71 : decode cX11_giftTo 71 = .ok (.iload 4, 2) := by decide +kernel
theorem dX11_giftTo_73 : decode cX11_giftTo 73 = .ok (.istore_n 2, 1) := by decide +kernel
theorem dX11_giftTo_74 : decode cX11_giftTo 74 = .ok (.iinc 4 1, 3) := by decide +kernel
theorem dX11_giftTo_77 : decode cX11_giftTo 77 = .ok (.goto (-69), 3) := by decide +kernel
theorem dX11_giftTo_80 : decode cX11_giftTo 80 = .ok (.iload_n 2, 1) := by decide +kernel
theorem dX11_giftTo_81 : decode cX11_giftTo 81 = .ok (.ireturn, 1) := by decide +kernel
theorem dX11_mark_0 : decode cX11_mark 0 = .ok (.iload_n 1, 1) := by decide +kernel
theorem dX11_mark_1 : decode cX11_mark 1 = .ok (.iconst (-1), 1) := by decide +kernel
theorem dX11_mark_2 : decode cX11_mark 2 = .ok (.if_icmp .ne 13, 3) := by decide +kernel
theorem dX11_mark_5 : decode cX11_mark 5 = .ok (.aload_n 0, 1) := by decide +kernel
theorem dX11_mark_6 : decode cX11_mark 6 = .ok (.getfield 14, 3) := by decide +kernel
theorem dX11_mark_9 : decode cX11_mark 9 = .ok (.iconst 0, 1) := by decide +kernel
theorem dX11_mark_10 : decode cX11_mark 10 = .ok (.putfield 191, 3) := by decide +kernel
theorem dX11_mark_13 : decode cX11_mark 13 = .ok (.iconst 0, 1) := by decide +kernel
theorem dX11_mark_14 : decode cX11_mark 14 = .ok (.ireturn, 1) := by decide +kernel
theorem dX11_mark_15 : decode cX11_mark 15 = .ok (.aload_n 0, 1) := by decide +kernel
theorem dX11_mark_16 : decode cX11_mark 16 = .ok (.getfield 14, 3) := by decide +kernel
theorem dX11_mark_19 : decode cX11_mark 19 = .ok (.iload_n 1, 1) := by decide +kernel
theorem dX11_mark_20 : decode cX11_mark 20 = .ok (.invokevirtual 65, 3) := by decide +kernel
theorem dX11_mark_23 : decode cX11_mark 23 = .ok (.ifCond .ne 5, 3) := by decide +kernel
theorem dX11_mark_26 : decode cX11_mark 26 = .ok (.iconst (-1), 1) := by decide +kernel
theorem dX11_mark_27 : decode cX11_mark 27 = .ok (.ireturn, 1) := by decide +kernel
theorem dX11_mark_28 : decode cX11_mark 28 = .ok (.iload_n 2, 1) := by decide +kernel
theorem dX11_mark_29 : decode cX11_mark 29 = .ok (.bipush 12, 2) := by decide +kernel
theorem dX11_mark_31 : decode cX11_mark 31 = .ok (.invokestatic 53, 3) := by decide +kernel
theorem dX11_mark_34 : decode cX11_mark 34 = .ok (.ifCond .eq 13, 3) := by decide +kernel
theorem dX11_mark_37 : decode cX11_mark 37 = .ok (.iload_n 3, 1) := by decide +kernel
theorem dX11_mark_38 : decode cX11_mark 38 = .ok (.sipush 999, 3) := by decide +kernel
theorem dX11_mark_41 : decode cX11_mark 41 = .ok (.invokestatic 53, 3) := by decide +kernel
theorem dX11_mark_44 : decode cX11_mark 44 = .ok (.ifCond .ne 6, 3) := by decide +kernel
theorem dX11_mark_47 : decode cX11_mark 47 = .ok (.bipush (-2), 2) := by decide +kernel
theorem dX11_mark_49 : decode cX11_mark 49 = .ok (.ireturn, 1) := by decide +kernel
theorem dX11_mark_50 : decode cX11_mark 50 = .ok (.aload_n 0, 1) := by decide +kernel
theorem dX11_mark_51 : decode cX11_mark 51 = .ok (.getfield 14, 3) := by decide +kernel
theorem dX11_mark_54 : decode cX11_mark 54 = .ok (.getfield 191, 3) := by decide +kernel
theorem dX11_mark_57 : decode cX11_mark 57 = .ok (.iconst 5, 1) := by decide +kernel
theorem dX11_mark_58 : decode cX11_mark 58 = .ok (.if_icmp .lt 6, 3) := by decide +kernel
theorem dX11_mark_61 : decode cX11_mark 61 = .ok (.bipush (-4), 2) := by decide +kernel
theorem dX11_mark_63 : decode cX11_mark 63 = .ok (.ireturn, 1) := by decide +kernel
theorem dX11_mark_64 : decode cX11_mark 64 = .ok (.aload_n 0, 1) := by decide +kernel
theorem dX11_mark_65 : decode cX11_mark 65 = .ok (.getfield 14, 3) := by decide +kernel
theorem dX11_mark_68 : decode cX11_mark 68 = .ok (.getfield 194, 3) := by decide +kernel
theorem dX11_mark_71 : decode cX11_mark 71 = .ok (.aload_n 0, 1) := by decide +kernel
theorem dX11_mark_72 : decode cX11_mark 72 = .ok (.getfield 14, 3) := by decide +kernel
theorem dX11_mark_75 : decode cX11_mark 75 = .ok (.getfield 191, 3) := by decide +kernel
theorem dX11_mark_78 : decode cX11_mark 78 = .ok (.iload_n 1, 1) := by decide +kernel
theorem dX11_mark_79 : decode cX11_mark 79 = .ok (.iastore, 1) := by decide +kernel
theorem dX11_mark_80 : decode cX11_mark 80 = .ok (.aload_n 0, 1) := by decide +kernel
theorem dX11_mark_81 : decode cX11_mark 81 = .ok (.getfield 14, 3) := by decide +kernel
theorem dX11_mark_84 : decode cX11_mark 84 = .ok (.getfield 197, 3) := by decide +kernel
theorem dX11_mark_87 : decode cX11_mark 87 = .ok (.aload_n 0, 1) := by decide +kernel
theorem dX11_mark_88 : decode cX11_mark 88 = .ok (.getfield 14, 3) := by decide +kernel
theorem dX11_mark_91 : decode cX11_mark 91 = .ok (.getfield 191, 3) := by decide +kernel
theorem dX11_mark_94 : decode cX11_mark 94 = .ok (.iload_n 2, 1) := by decide +kernel
theorem dX11_mark_95 : decode cX11_mark 95 = .ok (.iastore, 1) := by decide +kernel
theorem dX11_mark_96 : decode cX11_mark 96 = .ok (.aload_n 0, 1) := by decide +kernel
theorem dX11_mark_97 : decode cX11_mark 97 = .ok (.getfield 14, 3) := by decide +kernel
theorem dX11_mark_100 : decode cX11_mark 100 = .ok (.getfield 200, 3) := by decide +kernel
theorem dX11_mark_103 : decode cX11_mark 103 = .ok (.aload_n 0, 1) := by decide +kernel
theorem dX11_mark_104 : decode cX11_mark 104 = .ok (.getfield 14, 3) := by decide +kernel
theorem dX11_mark_107 : decode cX11_mark 107 = .ok (.getfield 191, 3) := by decide +kernel
theorem dX11_mark_110 : decode cX11_mark 110 = .ok (.iload_n 3, 1) := by decide +kernel
theorem dX11_mark_111 : decode cX11_mark 111 = .ok (.iastore, 1) := by decide +kernel
theorem dX11_mark_112 : decode cX11_mark 112 = .ok (.aload_n 0, 1) := by decide +kernel
theorem dX11_mark_113 : decode cX11_mark 113 = .ok (.getfield 14, 3) := by decide +kernel
theorem dX11_mark_116 : decode cX11_mark 116 = .ok (.dup, 1) := by decide +kernel
theorem dX11_mark_117 : decode cX11_mark 117 = .ok (.getfield 191, 3) := by decide +kernel
theorem dX11_mark_120 : decode cX11_mark 120 = .ok (.iconst 1, 1) := by decide +kernel
theorem dX11_mark_121 : decode cX11_mark 121 = .ok (.iadd, 1) := by decide +kernel
theorem dX11_mark_122 : decode cX11_mark 122 = .ok (.putfield 191, 3) := by decide +kernel
theorem dX11_mark_125 : decode cX11_mark 125 = .ok (.aload_n 0, 1) := by decide +kernel
theorem dX11_mark_126 : decode cX11_mark 126 = .ok (.getfield 14, 3) := by decide +kernel
theorem dX11_mark_129 : decode cX11_mark 129 = .ok (.getfield 191, 3) := by decide +kernel
theorem dX11_mark_132 : decode cX11_mark 132 = .ok (.ireturn, 1) := by decide +kernel
theorem dX11_wrong_0 : decode cX11_wrong 0 = .ok (.iconst 0, 1) := by decide +kernel
theorem dX11_wrong_1 : decode cX11_wrong 1 = .ok (.istore_n 1, 1) := by decide +kernel
theorem dX11_wrong_2 : decode cX11_wrong 2 = .ok (.iload_n 1, 1) := by decide +kernel
theorem dX11_wrong_3 : decode cX11_wrong 3 = .ok (.aload_n 0, 1) := by decide +kernel
theorem dX11_wrong_4 : decode cX11_wrong 4 = .ok (.getfield 14, 3) := by decide +kernel
theorem dX11_wrong_7 : decode cX11_wrong 7 = .ok (.getfield 191, 3) := by decide +kernel
theorem dX11_wrong_10 : decode cX11_wrong 10 = .ok (.if_icmp .ge 39, 3) := by decide +kernel
theorem dX11_wrong_13 : decode cX11_wrong 13 = .ok (.aload_n 0, 1) := by decide +kernel
theorem dX11_wrong_14 : decode cX11_wrong 14 = .ok (.iload_n 1, 1) := by decide +kernel
theorem dX11_wrong_15 : decode cX11_wrong 15 = .ok (.iconst 2, 1) := by decide +kernel
theorem dX11_wrong_16 : decode cX11_wrong 16 = .ok (.aload_n 0, 1) := by decide +kernel
theorem dX11_wrong_17 : decode cX11_wrong 17 = .ok (.getfield 14, 3) := by decide +kernel
theorem dX11_wrong_20 : decode cX11_wrong 20 = .ok (.getfield 87, 3) := by decide +kernel
theorem dX11_wrong_23 : decode cX11_wrong 23 = .ok (.aload_n 0, 1) := by decide +kernel
theorem dX11_wrong_24 : decode cX11_wrong 24 = .ok (.getfield 14, 3) := by decide +kernel
theorem dX11_wrong_27 : decode cX11_wrong 27 = .ok (.getfield 194, 3) := by decide +kernel
theorem dX11_wrong_30 : decode cX11_wrong 30 = .ok (.iload_n 1, 1) := by decide +kernel
theorem dX11_wrong_31 : decode cX11_wrong 31 = .ok (.iaload, 1) := by decide +kernel
theorem dX11_wrong_32 : decode cX11_wrong 32 = .ok (.aaload, 1) := by decide +kernel
theorem dX11_wrong_33 : decode cX11_wrong 33 = .ok (.iconst 2, 1) := by decide +kernel
theorem dX11_wrong_34 : decode cX11_wrong 34 = .ok (.iaload, 1) := by decide +kernel
theorem dX11_wrong_35 : decode cX11_wrong 35 = .ok (.invokevirtual 203, 3) := by decide +kernel
theorem dX11_wrong_38 : decode cX11_wrong 38 = .ok (.ifCond .ne 5, 3) := by decide +kernel
theorem dX11_wrong_41 : decode cX11_wrong 41 = .ok (.iload_n 1, 1) := by decide +kernel
theorem dX11_wrong_42 : decode cX11_wrong 42 = .ok (.ireturn, 1) := by decide +kernel
theorem dX11_wrong_43 : decode cX11_wrong 43 = .ok (.iinc 1 1, 3) := by decide +kernel
theorem dX11_wrong_46 : decode cX11_wrong 46 = .ok (.goto (-44), 3) := by decide +kernel
theorem dX11_wrong_49 : decode cX11_wrong 49 = .ok (.bipush (-5), 2) := by decide +kernel
theorem dX11_wrong_51 : decode cX11_wrong 51 = .ok (.ireturn, 1) := by decide +kernel
theorem dX11_can_0 : decode cX11_can 0 = .ok (.aload_n 0, 1) := by decide +kernel
theorem dX11_can_1 : decode cX11_can 1 = .ok (.getfield 14, 3) := by decide +kernel
theorem dX11_can_4 : decode cX11_can 4 = .ok (.iload_n 1, 1) := by decide +kernel
theorem dX11_can_5 : decode cX11_can 5 = .ok (.invokevirtual 65, 3) := by decide +kernel
theorem dX11_can_8 : decode cX11_can 8 = .ok (.ifCond .eq 11, 3) := by decide +kernel
theorem dX11_can_11 : decode cX11_can 11 = .ok (.iload_n 2, 1) := by decide +kernel
theorem dX11_can_12 : decode cX11_can 12 = .ok (.iconst 1, 1) := by decide +kernel
theorem dX11_can_13 : decode cX11_can 13 = .ok (.invokestatic 53, 3) := by decide +kernel
theorem dX11_can_16 : decode cX11_can 16 = .ok (.ifCond .ne 5, 3) := by decide +kernel
theorem dX11_can_19 : decode cX11_can 19 = .ok (.iconst (-1), 1) := by decide +kernel
theorem dX11_can_20 : decode cX11_can 20 = .ok (.ireturn, 1) := by decide +kernel
theorem dX11_can_21 : decode cX11_can 21 = .ok (.aload_n 0, 1) := by decide +kernel
theorem dX11_can_22 : decode cX11_can 22 = .ok (.iload_n 1, 1) := by decide +kernel
theorem dX11_can_23 : decode cX11_can 23 = .ok (.iconst 1, 1) := by decide +kernel
theorem dX11_can_24 : decode cX11_can 24 = .ok (.bipush 9, 2) := by decide +kernel
