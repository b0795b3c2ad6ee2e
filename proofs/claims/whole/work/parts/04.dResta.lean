theorem dX0_init_0 : decode cX0_init 0 = .ok (.aload_n 0, 1) := by decide +kernel
theorem dX0_init_1 : decode cX0_init 1 = .ok (.invokespecial 3, 3) := by decide +kernel
theorem dX0_init_4 : decode cX0_init 4 = .ok (.aload_n 0, 1) := by decide +kernel
theorem dX0_init_5 : decode cX0_init 5 = .ok (.bipush 20, 2) := by decide +kernel
theorem dX0_init_7 : decode cX0_init 7 = .ok (.newarray .int, 2) := by decide +kernel
theorem dX0_init_9 : decode cX0_init 9 = .ok (.putfield 9, 3) := by decide +kernel
theorem dX0_init_12 : decode cX0_init 12 = .ok (.return_, 1) := by decide +kernel
theorem dX0_begin_0 : decode cX0_begin 0 = .ok (.aload_n 0, 1) := by decide +kernel
theorem dX0_begin_1 : decode cX0_begin 1 = .ok (.getfield 15, 3) := by decide +kernel
theorem dX0_begin_4 : decode cX0_begin 4 = .ok (.bipush 20, 2) := by decide +kernel
theorem dX0_begin_6 : decode cX0_begin 6 = .ok (.if_icmp .ge 13, 3) := by decide +kernel
theorem dX0_begin_9 : decode cX0_begin 9 = .ok (.aload_n 0, 1) := by decide +kernel
theorem dX0_begin_10 : decode cX0_begin 10 = .ok (.getfield 9, 3) := by decide +kernel
theorem dX0_begin_13 : decode cX0_begin 13 = .ok (.aload_n 0, 1) := by decide +kernel
theorem dX0_begin_14 : decode cX0_begin 14 = .ok (.getfield 15, 3) := by decide +kernel
theorem dX0_begin_17 : decode cX0_begin 17 = .ok (.iload_n 1, 1) := by decide +kernel
theorem dX0_begin_18 : decode cX0_begin 18 = .ok (.iastore, 1) := by decide +kernel
theorem dX0_begin_19 : decode cX0_begin 19 = .ok (.aload_n 0, 1) := by decide +kernel
theorem dX0_begin_20 : decode cX0_begin 20 = .ok (.dup, 1) := by decide +kernel
theorem dX0_begin_21 : decode cX0_begin 21 = .ok (.getfield 15, 3) := by decide +kernel
theorem dX0_begin_24 : decode cX0_begin 24 = .ok (.iconst 1, 1) := by decide +kernel
theorem dX0_begin_25 : decode cX0_begin 25 = .ok (.iadd, 1) := by decide +kernel
theorem dX0_begin_26 : decode cX0_begin 26 = .ok (.putfield 15, 3) := by decide +kernel
theorem dX0_begin_29 : decode cX0_begin 29 = .ok (.return_, 1) := by decide +kernel
theorem dX1_init_0 : decode cX1_init 0 = .ok (.aload_n 0, 1) := by decide +kernel
theorem dX1_init_1 : decode cX1_init 1 = .ok (.invokespecial 3, 3) := by decide +kernel
theorem dX1_init_4 : decode cX1_init 4 = .ok (.return_, 1) := by decide +kernel
theorem dX1_brightness_0 : decode cX1_brightness 0 = .ok (.aload_n 0, 1) := by decide +kernel
theorem dX1_brightness_1 : decode cX1_brightness 1 = .ok (.aload_n 1, 1) := by decide +kernel
theorem dX1_brightness_2 : decode cX1_brightness 2 = .ok (.aload_n 2, 1) := by decide +kernel
theorem dX1_brightness_3 : decode cX1_brightness 3 = .ok (.iload_n 3, 1) := by decide +kernel
theorem dX1_brightness_4 : decode cX1_brightness 4 = .ok (.invokespecial 9, 3) := by decide +kernel
theorem dX1_brightness_7 : decode cX1_brightness 7 = .ok (.iconst 2, 1) := by decide +kernel
theorem dX1_brightness_8 : decode cX1_brightness 8 = .ok (.aload_n 1, 1) := by decide +kernel
theorem dX1_brightness_9 : decode cX1_brightness 9 = .ok (.iconst 2, 1) := by decide +kernel
theorem dX1_brightness_10 : decode cX1_brightness 10 = .ok (.invokevirtual 13, 3) := by decide +kernel
theorem dX1_brightness_13 : decode cX1_brightness 13 = .ok (.invokestatic 19, 3) := by decide +kernel
theorem dX1_brightness_16 : decode cX1_brightness 16 = .ok (.imul, 1) := by decide +kernel
theorem dX1_brightness_17 : decode cX1_brightness 17 = .ok (.iadd, 1) := by decide +kernel
theorem dX1_brightness_18 : decode cX1_brightness 18 = .ok (.ireturn, 1) := by decide +kernel
theorem dX1_hisses_0 : decode cX1_hisses 0 = .ok (.aload_n 1, 1) := by decide +kernel
theorem dX1_hisses_1 : decode cX1_hisses 1 = .ok (.bipush 50, 2) := by decide +kernel
theorem dX1_hisses_3 : decode cX1_hisses 3 = .ok (.invokevirtual 24, 3) := by decide +kernel
theorem dX1_hisses_6 : decode cX1_hisses 6 = .ok (.aload_n 0, 1) := by decide +kernel
theorem dX1_hisses_7 : decode cX1_hisses 7 = .ok (.aload_n 1, 1) := by decide +kernel
theorem dX1_hisses_8 : decode cX1_hisses 8 = .ok (.iload_n 2, 1) := by decide +kernel
theorem dX1_hisses_9 : decode cX1_hisses 9 = .ok (.invokespecial 30, 3) := by decide +kernel
theorem dX1_hisses_12 : decode cX1_hisses 12 = .ok (.ineg, 1) := by decide +kernel
theorem dX1_hisses_13 : decode cX1_hisses 13 = .ok (.ireturn, 1) := by decide +kernel
theorem dX1_climbs_0 : decode cX1_climbs 0 = .ok (.aload_n 1, 1) := by decide +kernel
theorem dX1_climbs_1 : decode cX1_climbs 1 = .ok (.bipush 51, 2) := by decide +kernel
theorem dX1_climbs_3 : decode cX1_climbs 3 = .ok (.invokevirtual 24, 3) := by decide +kernel
theorem dX1_climbs_6 : decode cX1_climbs 6 = .ok (.aload_n 0, 1) := by decide +kernel
theorem dX1_climbs_7 : decode cX1_climbs 7 = .ok (.aload_n 1, 1) := by decide +kernel
theorem dX1_climbs_8 : decode cX1_climbs 8 = .ok (.iload_n 2, 1) := by decide +kernel
theorem dX1_climbs_9 : decode cX1_climbs 9 = .ok (.iconst 1, 1) := by decide +kernel
theorem dX1_climbs_10 : decode cX1_climbs 10 = .ok (.iadd, 1) := by decide +kernel
theorem dX1_climbs_11 : decode cX1_climbs 11 = .ok (.invokespecial 34, 3) := by decide +kernel
theorem dX1_climbs_14 : decode cX1_climbs 14 = .ok (.ireturn, 1) := by decide +kernel
theorem dX2_init_0 : decode cX2_init 0 = .ok (.aload_n 0, 1) := by decide +kernel
theorem dX2_init_1 : decode cX2_init 1 = .ok (.invokespecial 3, 3) := by decide +kernel
theorem dX2_init_4 : decode cX2_init 4 = .ok (.return_, 1) := by decide +kernel
theorem dX2_brightness_0 : decode cX2_brightness 0 = .ok (.iload_n 3, 1) := by decide +kernel
theorem dX2_brightness_1 : decode cX2_brightness 1 = .ok (.aload_n 2, 1) := by decide +kernel
theorem dX2_brightness_2 : decode cX2_brightness 2 = .ok (.iconst 1, 1) := by decide +kernel
theorem dX2_brightness_3 : decode cX2_brightness 3 = .ok (.iaload, 1) := by decide +kernel
theorem dX2_brightness_4 : decode cX2_brightness 4 = .ok (.iadd, 1) := by decide +kernel
theorem dX2_brightness_5 : decode cX2_brightness 5 = .ok (.ireturn, 1) := by decide +kernel
theorem dX2_climbs_0 : decode cX2_climbs 0 = .ok (.aload_n 1, 1) := by decide +kernel
theorem dX2_climbs_1 : decode cX2_climbs 1 = .ok (.bipush 20, 2) := by decide +kernel
theorem dX2_climbs_3 : decode cX2_climbs 3 = .ok (.invokevirtual 9, 3) := by decide +kernel
theorem dX2_climbs_6 : decode cX2_climbs 6 = .ok (.aload_n 0, 1) := by decide +kernel
theorem dX2_climbs_7 : decode cX2_climbs 7 = .ok (.aload_n 1, 1) := by decide +kernel
theorem dX2_climbs_8 : decode cX2_climbs 8 = .ok (.iload_n 2, 1) := by decide +kernel
theorem dX2_climbs_9 : decode cX2_climbs 9 = .ok (.invokespecial 15, 3) := by decide +kernel
theorem dX2_climbs_12 : decode cX2_climbs 12 = .ok (.bipush 6, 2) := by decide +kernel
theorem dX2_climbs_14 : decode cX2_climbs 14 = .ok (.ixor, 1) := by decide +kernel
theorem dX2_climbs_15 : decode cX2_climbs 15 = .ok (.ireturn, 1) := by decide +kernel
theorem dX3_init_0 : decode cX3_init 0 = .ok (.aload_n 0, 1) := by decide +kernel
theorem dX3_init_1 : decode cX3_init 1 = .ok (.invokespecial 3, 3) := by decide +kernel
theorem dX3_init_4 : decode cX3_init 4 = .ok (.return_, 1) := by decide +kernel
theorem dX3_brightness_0 : decode cX3_brightness 0 = .ok (.aload_n 1, 1) := by decide +kernel
theorem dX3_brightness_1 : decode cX3_brightness 1 = .ok (.invokevirtual 9, 3) := by decide +kernel
theorem dX3_brightness_4 : decode cX3_brightness 4 = .ok (.aload_n 2, 1) := by decide +kernel
theorem dX3_brightness_5 : decode cX3_brightness 5 = .ok (.iconst 1, 1) := by decide +kernel
theorem dX3_brightness_6 : decode cX3_brightness 6 = .ok (.iaload, 1) := by decide +kernel
theorem dX3_brightness_7 : decode cX3_brightness 7 = .ok (.if_icmp .le 7, 3) := by decide +kernel
theorem dX3_brightness_10 : decode cX3_brightness 10 = .ok (.iconst 0, 1) := by decide +kernel
theorem dX3_brightness_11 : decode cX3_brightness 11 = .ok (.goto 4, 3) := by decide +kernel
theorem dX3_brightness_14 : decode cX3_brightness 14 = .ok (.iload_n 3, 1) := by decide +kernel
theorem dX3_brightness_15 : decode cX3_brightness 15 = .ok (.ireturn, 1) := by decide +kernel
theorem dX3_tells_0 : decode cX3_tells 0 = .ok (.aload_n 1, 1) := by decide +kernel
theorem dX3_tells_1 : decode cX3_tells 1 = .ok (.bipush 40, 2) := by decide +kernel
theorem dX3_tells_3 : decode cX3_tells 3 = .ok (.invokevirtual 15, 3) := by decide +kernel
theorem dX3_tells_6 : decode cX3_tells 6 = .ok (.aload_n 0, 1) := by decide +kernel
theorem dX3_tells_7 : decode cX3_tells 7 = .ok (.aload_n 1, 1) := by decide +kernel
theorem dX3_tells_8 : decode cX3_tells 8 = .ok (.iload_n 2, 1) := by decide +kernel
theorem dX3_tells_9 : decode cX3_tells 9 = .ok (.invokespecial 21, 3) := by decide +kernel
theorem dX3_tells_12 : decode cX3_tells 12 = .ok (.aload_n 0, 1) := by decide +kernel
theorem dX3_tells_13 : decode cX3_tells 13 = .ok (.aload_n 1, 1) := by decide +kernel
theorem dX3_tells_14 : decode cX3_tells 14 = .ok (.iconst 1, 1) := by decide +kernel
theorem dX3_tells_15 : decode cX3_tells 15 = .ok (.invokevirtual 25, 3) := by decide +kernel
theorem dX3_tells_18 : decode cX3_tells 18 = .ok (.iadd, 1) := by decide +kernel
theorem dX3_tells_19 : decode cX3_tells 19 = .ok (.ireturn, 1) := by decide +kernel
theorem dX4_init_0 : decode cX4_init 0 = .ok (.aload_n 0, 1) := by decide +kernel
theorem dX4_init_1 : decode cX4_init 1 = .ok (.invokespecial 3, 3) := by decide +kernel
theorem dX4_init_4 : decode cX4_init 4 = .ok (.aload_n 0, 1) := by decide +kernel
theorem dX4_init_5 : decode cX4_init 5 = .ok (.bipush 100, 2) := by decide +kernel
theorem dX4_init_7 : decode cX4_init 7 = .ok (.newarray .byte, 2) := by decide +kernel
theorem dX4_init_9 : decode cX4_init 9 = .ok (.putfield 9, 3) := by decide +kernel
theorem dX4_init_12 : decode cX4_init 12 = .ok (.aload_n 0, 1) := by decide +kernel
theorem dX4_init_13 : decode cX4_init 13 = .ok (.sipush 300, 3) := by decide +kernel
theorem dX4_init_16 : decode cX4_init 16 = .ok (.newarray .int, 2) := by decide +kernel
theorem dX4_init_18 : decode cX4_init 18 = .ok (.putfield 15, 3) := by decide +kernel
theorem dX4_init_21 : decode cX4_init 21 = .ok (.return_, 1) := by decide +kernel
theorem dX4_findFault_0 : decode cX4_findFault 0 = .ok (.aload_n 0, 1) := by decide +kernel
theorem dX4_findFault_1 : decode cX4_findFault 1 = .ok (.iconst 0, 1) := by decide +kernel
theorem dX4_findFault_2 : decode cX4_findFault 2 = .ok (.putfield 19, 3) := by decide +kernel
theorem dX4_findFault_5 : decode cX4_findFault 5 = .ok (.aload_n 0, 1) := by decide +kernel
theorem dX4_findFault_6 : decode cX4_findFault 6 = .ok (.iconst 0, 1) := by decide +kernel
theorem dX4_findFault_7 : decode cX4_findFault 7 = .ok (.putfield 23, 3) := by decide +kernel
theorem dX4_findFault_10 : decode cX4_findFault 10 = .ok (.aload_n 0, 1) := by decide +kernel
theorem dX4_findFault_11 : decode cX4_findFault 11 = .ok (.iconst 2, 1) := by decide +kernel
theorem dX4_findFault_12 : decode cX4_findFault 12 = .ok (.putfield 26, 3) := by decide +kernel
theorem dX4_findFault_15 : decode cX4_findFault 15 = .ok (.iconst 1, 1) := by decide +kernel
theorem dX4_findFault_16 : decode cX4_findFault 16 = .ok (.istore_n 1, 1) := by decide +kernel
theorem dX4_findFault_17 : decode cX4_findFault 17 = .ok (.iload_n 1, 1) := by decide +kernel
theorem dX4_findFault_18 : decode cX4_findFault 18 = .ok (.bipush 10, 2) := by decide +kernel
theorem dX4_findFault_20 : decode cX4_findFault 20 = .ok (.if_icmp .gt 54, 3) := by decide +kernel
theorem dX4_findFault_23 : decode cX4_findFault 23 = .ok (.aload_n 0, 1) := by decide +kernel
theorem dX4_findFault_24 : decode cX4_findFault 24 = .ok (.invokevirtual 29, 3) := by decide +kernel
theorem dX4_findFault_27 : decode cX4_findFault 27 = .ok (.ifCond .ne 8, 3) := by decide +kernel
theorem dX4_findFault_30 : decode cX4_findFault 30 = .ok (.aload_n 0, 1) := by decide +kernel
theorem dX4_findFault_31 : decode cX4_findFault 31 = .ok (.getfield 19, 3) := by decide +kernel
theorem dX4_findFault_34 : decode cX4_findFault 34 = .ok (.ireturn, 1) := by decide +kernel
theorem dX4_findFault_35 : decode cX4_findFault 35 = .ok (.aload_n 0, 1) := by decide +kernel
theorem dX4_findFault_36 : decode cX4_findFault 36 = .ok (.getfield 19, 3) := by decide +kernel
theorem dX4_findFault_39 : decode cX4_findFault 39 = .ok (.aload_n 0, 1) := by decide +kernel
theorem dX4_findFault_40 : decode cX4_findFault 40 = .ok (.getfield 33, 3) := by decide +kernel
theorem dX4_findFault_43 : decode cX4_findFault 43 = .ok (.if_icmp .ne 5, 3) := by decide +kernel
theorem dX4_findFault_46 : decode cX4_findFault 46 = .ok (.iconst (-1), 1) := by decide +kernel
theorem dX4_findFault_47 : decode cX4_findFault 47 = .ok (.ireturn, 1) := by decide +kernel
theorem dX4_findFault_48 : decode cX4_findFault 48 = .ok (.iload_n 1, 1) := by decide +kernel
theorem dX4_findFault_49 : decode cX4_findFault 49 = .ok (.bipush 10, 2) := by decide +kernel
theorem dX4_findFault_51 : decode cX4_findFault 51 = .ok (.if_icmp .eq 12, 3) := by decide +kernel
theorem dX4_findFault_54 : decode cX4_findFault 54 = .ok (.aload_n 0, 1) := by decide +kernel
theorem dX4_findFault_55 : decode cX4_findFault 55 = .ok (.bipush 59, 2) := by decide +kernel
theorem dX4_findFault_57 : decode cX4_findFault 57 = .ok (.invokevirtual 36, 3) := by decide +kernel
theorem dX4_findFault_60 : decode cX4_findFault 60 = .ok (.ifCond .ne 8, 3) := by decide +kernel
theorem dX4_findFault_63 : decode cX4_findFault 63 = .ok (.aload_n 0, 1) := by decide +kernel
theorem dX4_findFault_64 : decode cX4_findFault 64 = .ok (.getfield 19, 3) := by decide +kernel
theorem dX4_findFault_67 : decode cX4_findFault 67 = .ok (.ireturn, 1) := by decide +kernel
theorem dX4_findFault_68 : decode cX4_findFault 68 = .ok (.iinc 1 1, 3) := by decide +kernel
theorem dX4_findFault_71 : decode cX4_findFault 71 = .ok (.goto (-54), 3) := by decide +kernel
theorem dX4_findFault_74 : decode cX4_findFault 74 = .ok (.aload_n 0, 1) := by decide +kernel
theorem dX4_findFault_75 : decode cX4_findFault 75 = .ok (.getfield 19, 3) := by decide +kernel
theorem dX4_findFault_78 : decode cX4_findFault 78 = .ok (.ireturn, 1) := by decide +kernel
theorem dX4_makeShow_0 : decode cX4_makeShow 0 = .ok (.new 40, 3) := by decide +kernel
theorem dX4_makeShow_3 : decode cX4_makeShow 3 = .ok (.dup, 1) := by decide +kernel
theorem dX4_makeShow_4 : decode cX4_makeShow 4 = .ok (.aload_n 0, 1) := by decide +kernel
theorem dX4_makeShow_5 : decode cX4_makeShow 5 = .ok (.getfield 15, 3) := by decide +kernel
theorem dX4_makeShow_8 : decode cX4_makeShow 8 = .ok (.aload_n 0, 1) := by decide +kernel
theorem dX4_makeShow_9 : decode cX4_makeShow 9 = .ok (.getfield 23, 3) := by decide +kernel
theorem dX4_makeShow_12 : decode cX4_makeShow 12 = .ok (.invokestatic 42, 3) := by decide +kernel
theorem dX4_makeShow_15 : decode cX4_makeShow 15 = .ok (.aload_n 0, 1) := by decide +kernel
theorem dX4_makeShow_16 : decode cX4_makeShow 16 = .ok (.getfield 26, 3) := by decide +kernel
theorem dX4_makeShow_19 : decode cX4_makeShow 19 = .ok (.invokespecial 48, 3) := by decide +kernel
theorem dX4_makeShow_22 : decode cX4_makeShow 22 = .ok (.areturn, 1) := by decide +kernel
theorem dX4_takeClause_0 : decode cX4_takeClause 0 = .ok (.bipush 6, 2) := by decide +kernel
theorem dX4_takeClause_2 : decode cX4_takeClause 2 = .ok (.istore_n 1, 1) := by decide +kernel
theorem dX4_takeClause_3 : decode cX4_takeClause 3 = .ok (.aload_n 0, 1) := by decide +kernel
theorem dX4_takeClause_4 : decode cX4_takeClause 4 = .ok (.invokevirtual 51, 3) := by decide +kernel
theorem dX4_takeClause_7 : decode cX4_takeClause 7 = .ok (.bipush 98, 2) := by decide +kernel
theorem dX4_takeClause_9 : decode cX4_takeClause 9 = .ok (.if_icmp .ne 14, 3) := by decide +kernel
theorem dX4_takeClause_12 : decode cX4_takeClause 12 = .ok (.aload_n 0, 1) := by decide +kernel
theorem dX4_takeClause_13 : decode cX4_takeClause 13 = .ok (.ldc 55, 2) := by decide +kernel
theorem dX4_takeClause_15 : decode cX4_takeClause 15 = .ok (.invokevirtual 57, 3) := by decide +kernel
theorem dX4_takeClause_18 : decode cX4_takeClause 18 = .ok (.ifCond .ne 71, 3) := by decide +kernel
theorem dX4_takeClause_21 : decode cX4_takeClause 21 = .ok (.iconst 0, 1) := by decide +kernel
theorem dX4_takeClause_22 : decode cX4_takeClause 22 = .ok (.ireturn, 1) := by decide +kernel
theorem dX4_takeClause_23 : decode cX4_takeClause 23 = .ok (.aload_n 0, 1) := by decide +kernel
theorem dX4_takeClause_24 : decode cX4_takeClause 24 = .ok (.bipush 100, 2) := by decide +kernel
theorem dX4_takeClause_26 : decode cX4_takeClause 26 = .ok (.invokevirtual 36, 3) := by decide +kernel
theorem dX4_takeClause_29 : decode cX4_takeClause 29 = .ok (.ifCond .ne 5, 3) := by decide +kernel
theorem dX4_takeClause_32 : decode cX4_takeClause 32 = .ok (.iconst 0, 1) := by decide +kernel
theorem dX4_takeClause_33 : decode cX4_takeClause 33 = .ok (.ireturn, 1) := by decide +kernel
theorem dX4_takeClause_34 : decode cX4_takeClause 34 = .ok (.aload_n 0, 1) := by decide +kernel
theorem dX4_takeClause_35 : decode cX4_takeClause 35 = .ok (.invokevirtual 51, 3) := by decide +kernel
theorem dX4_takeClause_38 : decode cX4_takeClause 38 = .ok (.bipush 114, 2) := by decide +kernel
theorem dX4_takeClause_40 : decode cX4_takeClause 40 = .ok (.if_icmp .ne 35, 3) := by decide +kernel
theorem dX4_takeClause_43 : decode cX4_takeClause 43 = .ok (.aload_n 0, 1) := by decide +kernel
theorem dX4_takeClause_44 : decode cX4_takeClause 44 = .ok (.ldc 61, 2) := by decide +kernel
theorem dX4_takeClause_46 : decode cX4_takeClause 46 = .ok (.invokevirtual 57, 3) := by decide +kernel
theorem dX4_takeClause_49 : decode cX4_takeClause 49 = .ok (.ifCond .eq 14, 3) := by decide +kernel
theorem dX4_takeClause_52 : decode cX4_takeClause 52 = .ok (.aload_n 0, 1) := by decide +kernel
theorem dX4_takeClause_53 : decode cX4_takeClause 53 = .ok (.invokevirtual 63, 3) := by decide +kernel
theorem dX4_takeClause_56 : decode cX4_takeClause 56 = .ok (.ifCond .eq 7, 3) := by decide +kernel
theorem dX4_takeClause_59 : decode cX4_takeClause 59 = .ok (.iconst 1, 1) := by decide +kernel
theorem dX4_takeClause_60 : decode cX4_takeClause 60 = .ok (.goto 4, 3) := by decide +kernel
theorem dX4_takeClause_63 : decode cX4_takeClause 63 = .ok (.iconst 0, 1) := by decide +kernel
theorem dX4_takeClause_64 : decode cX4_takeClause 64 = .ok (.istore_n 2, 1) := by decide +kernel
theorem dX4_takeClause_65 : decode cX4_takeClause 65 = .ok (.aload_n 0, 1) := by decide +kernel
theorem dX4_takeClause_66 : decode cX4_takeClause 66 = .ok (.aload_n 0, 1) := by decide +kernel
theorem dX4_takeClause_67 : decode cX4_takeClause 67 = .ok (.getfield 66, 3) := by decide +kernel
theorem dX4_takeClause_70 : decode cX4_takeClause 70 = .ok (.putfield 26, 3) := by decide +kernel
theorem dX4_takeClause_73 : decode cX4_takeClause 73 = .ok (.iload_n 2, 1) := by decide +kernel
theorem dX4_takeClause_74 : decode cX4_takeClause 74 = .ok (.ireturn, 1) := by decide +kernel
theorem dX4_takeClause_75 : decode cX4_takeClause 75 = .ok (.aload_n 0, 1) := by decide +kernel
theorem dX4_takeClause_76 : decode cX4_takeClause 76 = .ok (.ldc 69, 2) := by decide +kernel
theorem dX4_takeClause_78 : decode cX4_takeClause 78 = .ok (.invokevirtual 57, 3) := by decide +kernel
theorem dX4_takeClause_81 : decode cX4_takeClause 81 = .ok (.ifCond .ne 5, 3) := by decide +kernel
theorem dX4_takeClause_84 : decode cX4_takeClause 84 = .ok (.iconst 0, 1) := by decide +kernel
theorem dX4_takeClause_85 : decode cX4_takeClause 85 = .ok (.ireturn, 1) := by decide +kernel
theorem dX4_takeClause_86 : decode cX4_takeClause 86 = .ok (.bipush 7, 2) := by decide +kernel
theorem dX4_takeClause_88 : decode cX4_takeClause 88 = .ok (.istore_n 1, 1) := by decide +kernel
theorem dX4_takeClause_89 : decode cX4_takeClause 89 = .ok (.aload_n 0, 1) := by decide +kernel
theorem dX4_takeClause_90 : decode cX4_takeClause 90 = .ok (.invokevirtual 63, 3) := by decide +kernel
theorem dX4_takeClause_93 : decode cX4_takeClause 93 = .ok (.ifCond .ne 5, 3) := by decide +kernel
theorem dX4_takeClause_96 : decode cX4_takeClause 96 = .ok (.iconst 0, 1) := by decide +kernel
theorem dX4_takeClause_97 : decode cX4_takeClause 97 = .ok (.ireturn, 1) := by decide +kernel
theorem dX4_takeClause_98 : decode cX4_takeClause 98 = .ok (.aload_n 0, 1) := by decide +kernel
theorem dX4_takeClause_99 : decode cX4_takeClause 99 = .ok (.getfield 66, 3) := by decide +kernel
theorem dX4_takeClause_102 : decode cX4_takeClause 102 = .ok (.istore_n 2, 1) := by decide +kernel
theorem dX4_takeClause_103 : decode cX4_takeClause 103 = .ok (.aload_n 0, 1) := by decide +kernel
theorem dX4_takeClause_104 : decode cX4_takeClause 104 = .ok (.bipush 32, 2) := by decide +kernel
theorem dX4_takeClause_106 : decode cX4_takeClause 106 = .ok (.invokevirtual 36, 3) := by decide +kernel
theorem dX4_takeClause_109 : decode cX4_takeClause 109 = .ok (.ifCond .eq 11, 3) := by decide +kernel
theorem dX4_takeClause_112 : decode cX4_takeClause 112 = .ok (.aload_n 0, 1) := by decide +kernel
theorem dX4_takeClause_113 : decode cX4_takeClause 113 = .ok (.iconst 0, 1) := by decide +kernel
theorem dX4_takeClause_114 : decode cX4_takeClause 114 = .ok (.invokevirtual 71, 3) := by decide +kernel
theorem dX4_takeClause_117 : decode cX4_takeClause 117 = .ok (.ifCond .ne 5, 3) := by decide +kernel
theorem dX4_takeClause_120 : decode cX4_takeClause 120 = .ok (.iconst 0, 1) := by decide +kernel
theorem dX4_takeClause_121 : decode cX4_takeClause 121 = .ok (.ireturn, 1) := by decide +kernel
theorem dX4_takeClause_122 : decode cX4_takeClause 122 = .ok (.aload_n 0, 1) := by decide +kernel
theorem dX4_takeClause_123 : decode cX4_takeClause 123 = .ok (.iload_n 1, 1) := by decide +kernel
theorem dX4_takeClause_124 : decode cX4_takeClause 124 = .ok (.iload_n 2, 1) := by decide +kernel
theorem dX4_takeClause_125 : decode cX4_takeClause 125 = .ok (.iconst 0, 1) := by decide +kernel
theorem dX4_takeClause_126 : decode cX4_takeClause 126 = .ok (.invokevirtual 74, 3) := by decide +kernel
theorem dX4_takeClause_129 : decode cX4_takeClause 129 = .ok (.iconst 1, 1) := by decide +kernel
theorem dX4_takeClause_130 : decode cX4_takeClause 130 = .ok (.ireturn, 1) := by decide +kernel
theorem dX4_takeEither_0 : decode cX4_takeEither 0 = .ok (.aload_n 0, 1) := by decide +kernel
theorem dX4_takeEither_1 : decode cX4_takeEither 1 = .ok (.iload_n 1, 1) := by decide +kernel
theorem dX4_takeEither_2 : decode cX4_takeEither 2 = .ok (.invokevirtual 78, 3) := by decide +kernel
theorem dX4_takeEither_5 : decode cX4_takeEither 5 = .ok (.ifCond .ne 5, 3) := by decide +kernel
theorem dX4_takeEither_8 : decode cX4_takeEither 8 = .ok (.iconst 0, 1) := by decide +kernel
theorem dX4_takeEither_9 : decode cX4_takeEither 9 = .ok (.ireturn, 1) := by decide +kernel
theorem dX4_takeEither_10 : decode cX4_takeEither 10 = .ok (.iconst 0, 1) := by decide +kernel
theorem dX4_takeEither_11 : decode cX4_takeEither 11 = .ok (.istore_n 2, 1) := by decide +kernel
theorem dX4_takeEither_12 : decode cX4_takeEither 12 = .ok (.iconst 0, 1) := by decide +kernel
theorem dX4_takeEither_13 : decode cX4_takeEither 13 = .ok (.istore_n 3, 1) := by decide +kernel
theorem dX4_takeEither_14 : decode cX4_takeEither 14 = .ok (.iload_n 3, 1) := by decide +kernel
theorem dX4_takeEither_15 : decode cX4_takeEither 15 = .ok (.bipush 100, 2) := by decide +kernel
theorem dX4_takeEither_17 : decode cX4_takeEither 17 = .ok (.if_icmp .ge 95, 3) := by decide +kernel
theorem dX4_takeEither_20 : decode cX4_takeEither 20 = .ok (.aload_n 0, 1) := by decide +kernel
theorem dX4_takeEither_21 : decode cX4_takeEither 21 = .ok (.invokevirtual 51, 3) := by decide +kernel
theorem dX4_takeEither_24 : decode cX4_takeEither 24 = .ok (.bipush 38, 2) := by decide +kernel
theorem dX4_takeEither_26 : decode cX4_takeEither 26 = .ok (.if_icmp .ne 7, 3) := by decide +kernel
theorem dX4_takeEither_29 : decode cX4_takeEither 29 = .ok (.iconst 1, 1) := by decide +kernel
theorem dX4_takeEither_30 : decode cX4_takeEither 30 = .ok (.goto 4, 3) := by decide +kernel
theorem dX4_takeEither_33 : decode cX4_takeEither 33 = .ok (.iconst 0, 1) := by decide +kernel
theorem dX4_takeEither_34 : decode cX4_takeEither 34 = .ok (.istore 4, 2) := by decide +kernel
theorem dX4_takeEither_36 : decode cX4_takeEither 36 = .ok (.iload 4, 2) := by decide +kernel
theorem dX4_takeEither_38 : decode cX4_takeEither 38 = .ok (.ifCond .ne 15, 3) := by decide +kernel
theorem dX4_takeEither_41 : decode cX4_takeEither 41 = .ok (.aload_n 0, 1) := by decide +kernel
theorem dX4_takeEither_42 : decode cX4_takeEither 42 = .ok (.invokevirtual 51, 3) := by decide +kernel
theorem dX4_takeEither_45 : decode cX4_takeEither 45 = .ok (.bipush 124, 2) := by decide +kernel
theorem dX4_takeEither_47 : decode cX4_takeEither 47 = .ok (.if_icmp .eq 6, 3) := by decide +kernel
theorem dX4_takeEither_50 : decode cX4_takeEither 50 = .ok (.goto 62, 3) := by decide +kernel
theorem dX4_takeEither_53 : decode cX4_takeEither 53 = .ok (.aload_n 0, 1) := by decide +kernel
theorem dX4_takeEither_54 : decode cX4_takeEither 54 = .ok (.dup, 1) := by decide +kernel
theorem dX4_takeEither_55 : decode cX4_takeEither 55 = .ok (.getfield 19, 3) := by decide +kernel
theorem dX4_takeEither_58 : decode cX4_takeEither 58 = .ok (.iconst 1, 1) := by decide +kernel
theorem dX4_takeEither_59 : decode cX4_takeEither 59 = .ok (.iadd, 1) := by decide +kernel
theorem dX4_takeEither_60 : decode cX4_takeEither 60 = .ok (.putfield 19, 3) := by decide +kernel
theorem dX4_takeEither_63 : decode cX4_takeEither 63 = .ok (.iload 4, 2) := by decide +kernel
theorem dX4_takeEither_65 : decode cX4_takeEither 65 = .ok (.ifCond .ne 14, 3) := by decide +kernel
theorem dX4_takeEither_68 : decode cX4_takeEither 68 = .ok (.iload_n 2, 1) := by decide +kernel
theorem dX4_takeEither_69 : decode cX4_takeEither 69 = .ok (.ifCond .eq 10, 3) := by decide +kernel
theorem dX4_takeEither_72 : decode cX4_takeEither 72 = .ok (.aload_n 0, 1) := by decide +kernel
theorem dX4_takeEither_73 : decode cX4_takeEither 73 = .ok (.iconst 5, 1) := by decide +kernel
theorem dX4_takeEither_74 : decode cX4_takeEither 74 = .ok (.iconst 0, 1) := by decide +kernel
theorem dX4_takeEither_75 : decode cX4_takeEither 75 = .ok (.iconst 0, 1) := by decide +kernel
theorem dX4_takeEither_76 : decode cX4_takeEither 76 = .ok (.invokevirtual 74, 3) := by decide +kernel
theorem dX4_takeEither_79 : decode cX4_takeEither 79 = .ok (.aload_n 0, 1) := by decide +kernel
theorem dX4_takeEither_80 : decode cX4_takeEither 80 = .ok (.iload_n 1, 1) := by decide +kernel
theorem dX4_takeEither_81 : decode cX4_takeEither 81 = .ok (.invokevirtual 78, 3) := by decide +kernel
theorem dX4_takeEither_84 : decode cX4_takeEither 84 = .ok (.ifCond .ne 5, 3) := by decide +kernel
theorem dX4_takeEither_87 : decode cX4_takeEither 87 = .ok (.iconst 0, 1) := by decide +kernel
theorem dX4_takeEither_88 : decode cX4_takeEither 88 = .ok (.ireturn, 1) := by decide +kernel
theorem dX4_takeEither_89 : decode cX4_takeEither 89 = .ok (.iload 4, 2) := by decide +kernel
theorem dX4_takeEither_91 : decode cX4_takeEither 91 = .ok (.ifCond .eq 13, 3) := by decide +kernel
theorem dX4_takeEither_94 : decode cX4_takeEither 94 = .ok (.aload_n 0, 1) := by decide +kernel
theorem dX4_takeEither_95 : decode cX4_takeEither 95 = .ok (.iconst 4, 1) := by decide +kernel
theorem dX4_takeEither_96 : decode cX4_takeEither 96 = .ok (.iconst 0, 1) := by decide +kernel
theorem dX4_takeEither_97 : decode cX4_takeEither 97 = .ok (.iconst 0, 1) := by decide +kernel
theorem dX4_takeEither_98 : decode cX4_takeEither 98 = .ok (.invokevirtual 74, 3) := by decide +kernel
theorem dX4_takeEither_101 : decode cX4_takeEither 101 = .ok (.goto 5, 3) := by decide +kernel
theorem dX4_takeEither_104 : decode cX4_takeEither 104 = .ok (.iconst 1, 1) := by decide +kernel
theorem dX4_takeEither_105 : decode cX4_takeEither 105 = .ok (.istore_n 2, 1) := by decide +kernel
theorem dX4_takeEither_106 : decode cX4_takeEither 106 = .ok (.iinc 3 1, 3) := by decide +kernel
theorem dX4_takeEither_109 : decode cX4_takeEither 109 = .ok (.goto (-95), 3) := by decide +kernel
theorem dX4_takeEither_112 : decode cX4_takeEither 112 = .ok (.iload_n 2, 1) := by decide +kernel
theorem dX4_takeEither_113 : decode cX4_takeEither 113 = .ok (.ifCond .eq 10, 3) := by decide +kernel
theorem dX4_takeEither_116 : decode cX4_takeEither 116 = .ok (.aload_n 0, 1) := by decide +kernel
theorem dX4_takeEither_117 : decode cX4_takeEither 117 = .ok (.iconst 5, 1) := by decide +kernel
theorem dX4_takeEither_118 : decode cX4_takeEither 118 = .ok (.iconst 0, 1) := by decide +kernel
theorem dX4_takeEither_119 : decode cX4_takeEither 119 = .ok (.iconst 0, 1) := by decide +kernel
theorem dX4_takeEither_120 : decode cX4_takeEither 120 = .ok (.invokevirtual 74, 3) := by decide +kernel
theorem dX4_takeEither_123 : decode cX4_takeEither 123 = .ok (.iconst 1, 1) := by decide +kernel
theorem dX4_takeEither_124 : decode cX4_takeEither 124 = .ok (.ireturn, 1) := by decide +kernel
theorem dX4_takeFactor_0 : decode cX4_takeFactor 0 = .ok (.iload_n 1, 1) := by decide +kernel
theorem dX4_takeFactor_1 : decode cX4_takeFactor 1 = .ok (.iconst 4, 1) := by decide +kernel
theorem dX4_takeFactor_2 : decode cX4_takeFactor 2 = .ok (.if_icmp .ge 39, 3) := by decide +kernel
theorem dX4_takeFactor_5 : decode cX4_takeFactor 5 = .ok (.aload_n 0, 1) := by decide +kernel
theorem dX4_takeFactor_6 : decode cX4_takeFactor 6 = .ok (.invokevirtual 51, 3) := by decide +kernel
theorem dX4_takeFactor_9 : decode cX4_takeFactor 9 = .ok (.bipush 33, 2) := by decide +kernel
theorem dX4_takeFactor_11 : decode cX4_takeFactor 11 = .ok (.if_icmp .ne 30, 3) := by decide +kernel
theorem dX4_takeFactor_14 : decode cX4_takeFactor 14 = .ok (.aload_n 0, 1) := by decide +kernel
theorem dX4_takeFactor_15 : decode cX4_takeFactor 15 = .ok (.dup, 1) := by decide +kernel
theorem dX4_takeFactor_16 : decode cX4_takeFactor 16 = .ok (.getfield 19, 3) := by decide +kernel
theorem dX4_takeFactor_19 : decode cX4_takeFactor 19 = .ok (.iconst 1, 1) := by decide +kernel
theorem dX4_takeFactor_20 : decode cX4_takeFactor 20 = .ok (.iadd, 1) := by decide +kernel
theorem dX4_takeFactor_21 : decode cX4_takeFactor 21 = .ok (.putfield 19, 3) := by decide +kernel
theorem dX4_takeFactor_24 : decode cX4_takeFactor 24 = .ok (.aload_n 0, 1) := by decide +kernel
theorem dX4_takeFactor_25 : decode cX4_takeFactor 25 = .ok (.iload_n 1, 1) := by decide +kernel
theorem dX4_takeFactor_26 : decode cX4_takeFactor 26 = .ok (.iconst 1, 1) := by decide +kernel
theorem dX4_takeFactor_27 : decode cX4_takeFactor 27 = .ok (.iadd, 1) := by decide +kernel
theorem dX4_takeFactor_28 : decode cX4_takeFactor 28 = .ok (.invokevirtual 78, 3) := by decide +kernel
theorem dX4_takeFactor_31 : decode cX4_takeFactor 31 = .ok (.istore_n 2, 1) := by decide +kernel
theorem dX4_takeFactor_32 : decode cX4_takeFactor 32 = .ok (.aload_n 0, 1) := by decide +kernel
theorem dX4_takeFactor_33 : decode cX4_takeFactor 33 = .ok (.iconst 3, 1) := by decide +kernel
theorem dX4_takeFactor_34 : decode cX4_takeFactor 34 = .ok (.iconst 0, 1) := by decide +kernel
theorem dX4_takeFactor_35 : decode cX4_takeFactor 35 = .ok (.iconst 0, 1) := by decide +kernel
theorem dX4_takeFactor_36 : decode cX4_takeFactor 36 = .ok (.invokevirtual 74, 3) := by decide +kernel
theorem dX4_takeFactor_39 : decode cX4_takeFactor 39 = .ok (.iload_n 2, 1) := by decide +kernel
theorem dX4_takeFactor_40 : decode cX4_takeFactor 40 = .ok (.ireturn, 1) := by decide +kernel
theorem dX4_takeFactor_41 : decode cX4_takeFactor 41 = .ok (.iload_n 1, 1) := by decide +kernel
theorem dX4_takeFactor_42 : decode cX4_takeFactor 42 = .ok (.iconst 4, 1) := by decide +kernel
theorem dX4_takeFactor_43 : decode cX4_takeFactor 43 = .ok (.if_icmp .ge 47, 3) := by decide +kernel
theorem dX4_takeFactor_46 : decode cX4_takeFactor 46 = .ok (.aload_n 0, 1) := by decide +kernel
theorem dX4_takeFactor_47 : decode cX4_takeFactor 47 = .ok (.invokevirtual 51, 3) := by decide +kernel
theorem dX4_takeFactor_50 : decode cX4_takeFactor 50 = .ok (.bipush 40, 2) := by decide +kernel
theorem dX4_takeFactor_52 : decode cX4_takeFactor 52 = .ok (.if_icmp .ne 38, 3) := by decide +kernel
theorem dX4_takeFactor_55 : decode cX4_takeFactor 55 = .ok (.aload_n 0, 1) := by decide +kernel
theorem dX4_takeFactor_56 : decode cX4_takeFactor 56 = .ok (.dup, 1) := by decide +kernel
theorem dX4_takeFactor_57 : decode cX4_takeFactor 57 = .ok (.getfield 19, 3) := by decide +kernel
theorem dX4_takeFactor_60 : decode cX4_takeFactor 60 = .ok (.iconst 1, 1) := by decide +kernel
theorem dX4_takeFactor_61 : decode cX4_takeFactor 61 = .ok (.iadd, 1) := by decide +kernel
theorem dX4_takeFactor_62 : decode cX4_takeFactor 62 = .ok (.putfield 19, 3) := by decide +kernel
theorem dX4_takeFactor_65 : decode cX4_takeFactor 65 = .ok (.aload_n 0, 1) := by decide +kernel
theorem dX4_takeFactor_66 : decode cX4_takeFactor 66 = .ok (.iload_n 1, 1) := by decide +kernel
theorem dX4_takeFactor_67 : decode cX4_takeFactor 67 = .ok (.iconst 1, 1) := by decide +kernel
theorem dX4_takeFactor_68 : decode cX4_takeFactor 68 = .ok (.iadd, 1) := by decide +kernel
theorem dX4_takeFactor_69 : decode cX4_takeFactor 69 = .ok (.invokevirtual 71, 3) := by decide +kernel
theorem dX4_takeFactor_72 : decode cX4_takeFactor 72 = .ok (.ifCond .eq 16, 3) := by decide +kernel
theorem dX4_takeFactor_75 : decode cX4_takeFactor 75 = .ok (.aload_n 0, 1) := by decide +kernel
theorem dX4_takeFactor_76 : decode cX4_takeFactor 76 = .ok (.bipush 41, 2) := by decide +kernel
theorem dX4_takeFactor_78 : decode cX4_takeFactor 78 = .ok (.invokevirtual 36, 3) := by decide +kernel
theorem dX4_takeFactor_81 : decode cX4_takeFactor 81 = .ok (.ifCond .eq 7, 3) := by decide +kernel
theorem dX4_takeFactor_84 : decode cX4_takeFactor 84 = .ok (.iconst 1, 1) := by decide +kernel
theorem dX4_takeFactor_85 : decode cX4_takeFactor 85 = .ok (.goto 4, 3) := by decide +kernel
theorem dX4_takeFactor_88 : decode cX4_takeFactor 88 = .ok (.iconst 0, 1) := by decide +kernel
theorem dX4_takeFactor_89 : decode cX4_takeFactor 89 = .ok (.ireturn, 1) := by decide +kernel
theorem dX4_takeFactor_90 : decode cX4_takeFactor 90 = .ok (.aload_n 0, 1) := by decide +kernel
theorem dX4_takeFactor_91 : decode cX4_takeFactor 91 = .ok (.invokevirtual 81, 3) := by decide +kernel
theorem dX4_takeFactor_94 : decode cX4_takeFactor 94 = .ok (.ireturn, 1) := by decide +kernel
theorem dX4_takeTest_0 : decode cX4_takeTest 0 = .ok (.aload_n 0, 1) := by decide +kernel
theorem dX4_takeTest_1 : decode cX4_takeTest 1 = .ok (.invokevirtual 51, 3) := by decide +kernel
theorem dX4_takeTest_4 : decode cX4_takeTest 4 = .ok (.istore_n 1, 1) := by decide +kernel
theorem dX4_takeTest_5 : decode cX4_takeTest 5 = .ok (.iload_n 1, 1) := by decide +kernel
theorem dX4_takeTest_6 : decode cX4_takeTest 6 = .ok (.ifCond .lt 13, 3) := by decide +kernel
theorem dX4_takeTest_9 : decode cX4_takeTest 9 = .ok (.ldc 84, 2) := by decide +kernel
theorem dX4_takeTest_11 : decode cX4_takeTest 11 = .ok (.iload_n 1, 1) := by decide +kernel
theorem dX4_takeTest_12 : decode cX4_takeTest 12 = .ok (.i2c, 1) := by decide +kernel
theorem dX4_takeTest_13 : decode cX4_takeTest 13 = .ok (.invokevirtual 86, 3) := by decide +kernel
theorem dX4_takeTest_16 : decode cX4_takeTest 16 = .ok (.ifCond .ge 5, 3) := by decide +kernel
theorem dX4_takeTest_19 : decode cX4_takeTest 19 = .ok (.iconst 0, 1) := by decide +kernel
theorem dX4_takeTest_20 : decode cX4_takeTest 20 = .ok (.ireturn, 1) := by decide +kernel
theorem dX4_takeTest_21 : decode cX4_takeTest 21 = .ok (.aload_n 0, 1) := by decide +kernel
theorem dX4_takeTest_22 : decode cX4_takeTest 22 = .ok (.dup, 1) := by decide +kernel
theorem dX4_takeTest_23 : decode cX4_takeTest 23 = .ok (.getfield 19, 3) := by decide +kernel
theorem dX4_takeTest_26 : decode cX4_takeTest 26 = .ok (.iconst 1, 1) := by decide +kernel
theorem dX4_takeTest_27 : decode cX4_takeTest 27 = .ok (.iadd, 1) := by decide +kernel
theorem dX4_takeTest_28 : decode cX4_takeTest 28 = .ok (.putfield 19, 3) := by decide +kernel
theorem dX4_takeTest_31 : decode cX4_takeTest 31 = .ok (.aload_n 0, 1) := by decide +kernel
theorem dX4_takeTest_32 : decode cX4_takeTest 32 = .ok (.invokevirtual 51, 3) := by decide +kernel
theorem dX4_takeTest_35 : decode cX4_takeTest 35 = .ok (.istore_n 2, 1) := by decide +kernel
theorem dX4_takeTest_36 : decode cX4_takeTest 36 = .ok (.iload_n 2, 1) := by decide +kernel
theorem dX4_takeTest_37 : decode cX4_takeTest 37 = .ok (.bipush 60, 2) := by decide +kernel
theorem dX4_takeTest_39 : decode cX4_takeTest 39 = .ok (.if_icmp .eq 17, 3) := by decide +kernel
theorem dX4_takeTest_42 : decode cX4_takeTest 42 = .ok (.iload_n 2, 1) := by decide +kernel
theorem dX4_takeTest_43 : decode cX4_takeTest 43 = .ok (.bipush 61, 2) := by decide +kernel
theorem dX4_takeTest_45 : decode cX4_takeTest 45 = .ok (.if_icmp .eq 11, 3) := by decide +kernel
theorem dX4_takeTest_48 : decode cX4_takeTest 48 = .ok (.iload_n 2, 1) := by decide +kernel
theorem dX4_takeTest_49 : decode cX4_takeTest 49 = .ok (.bipush 62, 2) := by decide +kernel
theorem dX4_takeTest_51 : decode cX4_takeTest 51 = .ok (.if_icmp .eq 5, 3) := by decide +kernel
theorem dX4_takeTest_54 : decode cX4_takeTest 54 = .ok (.iconst 0, 1) := by decide +kernel
theorem dX4_takeTest_55 : decode cX4_takeTest 55 = .ok (.ireturn, 1) := by decide +kernel
theorem dX4_takeTest_56 : decode cX4_takeTest 56 = .ok (.aload_n 0, 1) := by decide +kernel
theorem dX4_takeTest_57 : decode cX4_takeTest 57 = .ok (.dup, 1) := by decide +kernel
theorem dX4_takeTest_58 : decode cX4_takeTest 58 = .ok (.getfield 19, 3) := by decide +kernel
theorem dX4_takeTest_61 : decode cX4_takeTest 61 = .ok (.iconst 1, 1) := by decide +kernel
theorem dX4_takeTest_62 : decode cX4_takeTest 62 = .ok (.iadd, 1) := by decide +kernel
theorem dX4_takeTest_63 : decode cX4_takeTest 63 = .ok (.putfield 19, 3) := by decide +kernel
theorem dX4_takeTest_66 : decode cX4_takeTest 66 = .ok (.aload_n 0, 1) := by decide +kernel
theorem dX4_takeTest_67 : decode cX4_takeTest 67 = .ok (.invokevirtual 63, 3) := by decide +kernel
theorem dX4_takeTest_70 : decode cX4_takeTest 70 = .ok (.ifCond .ne 5, 3) := by decide +kernel
theorem dX4_takeTest_73 : decode cX4_takeTest 73 = .ok (.iconst 0, 1) := by decide +kernel
theorem dX4_takeTest_74 : decode cX4_takeTest 74 = .ok (.ireturn, 1) := by decide +kernel
theorem dX4_takeTest_75 : decode cX4_takeTest 75 = .ok (.aload_n 0, 1) := by decide +kernel
theorem dX4_takeTest_76 : decode cX4_takeTest 76 = .ok (.iload_n 2, 1) := by decide +kernel
theorem dX4_takeTest_77 : decode cX4_takeTest 77 = .ok (.bipush 60, 2) := by decide +kernel
theorem dX4_takeTest_79 : decode cX4_takeTest 79 = .ok (.if_icmp .ne 7, 3) := by decide +kernel
theorem dX4_takeTest_82 : decode cX4_takeTest 82 = .ok (.iconst 0, 1) := by decide +kernel
theorem dX4_takeTest_83 : decode cX4_takeTest 83 = .ok (.goto 14, 3) := by decide +kernel
theorem dX4_takeTest_86 : decode cX4_takeTest 86 = .ok (.iload_n 2, 1) := by decide +kernel
theorem dX4_takeTest_87 : decode cX4_takeTest 87 = .ok (.bipush 61, 2) := by decide +kernel
theorem dX4_takeTest_89 : decode cX4_takeTest 89 = .ok (.if_icmp .ne 7, 3) := by decide +kernel
theorem dX4_takeTest_92 : decode cX4_takeTest 92 = .ok (.iconst 1, 1) := by decide +kernel
theorem dX4_takeTest_93 : decode cX4_takeTest 93 = .ok (.goto 4, 3) := by decide +kernel
theorem dX4_takeTest_96 : decode cX4_takeTest 96 = .ok (.iconst 2, 1) := by decide +kernel
theorem dX4_takeTest_97 : decode cX4_takeTest 97 = .ok (.iload_n 1, 1) := by decide +kernel
theorem dX4_takeTest_98 : decode cX4_takeTest 98 = .ok (.aload_n 0, 1) := by decide +kernel
theorem dX4_takeTest_99 : decode cX4_takeTest 99 = .ok (.getfield 66, 3) := by decide +kernel
theorem dX4_takeTest_102 : decode cX4_takeTest 102 = .ok (.invokevirtual 74, 3) := by decide +kernel
theorem dX4_takeTest_105 : decode cX4_takeTest 105 = .ok (.iconst 1, 1) := by decide +kernel
theorem dX4_takeTest_106 : decode cX4_takeTest 106 = .ok (.ireturn, 1) := by decide +kernel
theorem dX4_takeNumber_0 : decode cX4_takeNumber 0 = .ok (.aload_n 0, 1) := by decide +kernel
theorem dX4_takeNumber_1 : decode cX4_takeNumber 1 = .ok (.iconst 0, 1) := by decide +kernel
theorem dX4_takeNumber_2 : decode cX4_takeNumber 2 = .ok (.putfield 66, 3) := by decide +kernel
theorem dX4_takeNumber_5 : decode cX4_takeNumber 5 = .ok (.iconst 0, 1) := by decide +kernel
theorem dX4_takeNumber_6 : decode cX4_takeNumber 6 = .ok (.istore_n 1, 1) := by decide +kernel
theorem dX4_takeNumber_7 : decode cX4_takeNumber 7 = .ok (.iload_n 1, 1) := by decide +kernel
theorem dX4_takeNumber_8 : decode cX4_takeNumber 8 = .ok (.iconst 2, 1) := by decide +kernel
theorem dX4_takeNumber_9 : decode cX4_takeNumber 9 = .ok (.if_icmp .ge 82, 3) := by decide +kernel
theorem dX4_takeNumber_12 : decode cX4_takeNumber 12 = .ok (.aload_n 0, 1) := by decide +kernel
theorem dX4_takeNumber_13 : decode cX4_takeNumber 13 = .ok (.getfield 19, 3) := by decide +kernel
theorem dX4_takeNumber_16 : decode cX4_takeNumber 16 = .ok (.aload_n 0, 1) := by decide +kernel
theorem dX4_takeNumber_17 : decode cX4_takeNumber 17 = .ok (.getfield 33, 3) := by decide +kernel
theorem dX4_takeNumber_20 : decode cX4_takeNumber 20 = .ok (.if_icmp .ge 71, 3) := by decide +kernel
theorem dX4_takeNumber_23 : decode cX4_takeNumber 23 = .ok (.aload_n 0, 1) := by decide +kernel
theorem dX4_takeNumber_24 : decode cX4_takeNumber 24 = .ok (.getfield 9, 3) := by decide +kernel
theorem dX4_takeNumber_27 : decode cX4_takeNumber 27 = .ok (.aload_n 0, 1) := by decide +kernel
theorem dX4_takeNumber_28 : decode cX4_takeNumber 28 = .ok (.getfield 19, 3) := by decide +kernel
theorem dX4_takeNumber_31 : decode cX4_takeNumber 31 = .ok (.baload, 1) := by decide +kernel
theorem dX4_takeNumber_32 : decode cX4_takeNumber 32 = .ok (.bipush 48, 2) := by decide +kernel
theorem dX4_takeNumber_34 : decode cX4_takeNumber 34 = .ok (.if_icmp .lt 57, 3) := by decide +kernel
theorem dX4_takeNumber_37 : decode cX4_takeNumber 37 = .ok (.aload_n 0, 1) := by decide +kernel
theorem dX4_takeNumber_38 : decode cX4_takeNumber 38 = .ok (.getfield 9, 3) := by decide +kernel
theorem dX4_takeNumber_41 : decode cX4_takeNumber 41 = .ok (.aload_n 0, 1) := by decide +kernel
theorem dX4_takeNumber_42 : decode cX4_takeNumber 42 = .ok (.getfield 19, 3) := by decide +kernel
theorem dX4_takeNumber_45 : decode cX4_takeNumber 45 = .ok (.baload, 1) := by decide +kernel
theorem dX4_takeNumber_46 : decode cX4_takeNumber 46 = .ok (.bipush 57, 2) := by decide +kernel
theorem dX4_takeNumber_48 : decode cX4_takeNumber 48 = .ok (.if_icmp .gt 43, 3) := by decide +kernel
theorem dX4_takeNumber_51 : decode cX4_takeNumber 51 = .ok (.aload_n 0, 1) := by decide +kernel
theorem dX4_takeNumber_52 : decode cX4_takeNumber 52 = .ok (.bipush 10, 2) := by decide +kernel
theorem dX4_takeNumber_54 : decode cX4_takeNumber 54 = .ok (.aload_n 0, 1) := by decide +kernel
theorem dX4_takeNumber_55 : decode cX4_takeNumber 55 = .ok (.getfield 66, 3) := by decide +kernel
theorem dX4_takeNumber_58 : decode cX4_takeNumber 58 = .ok (.imul, 1) := by decide +kernel
theorem dX4_takeNumber_59 : decode cX4_takeNumber 59 = .ok (.aload_n 0, 1) := by decide +kernel
theorem dX4_takeNumber_60 : decode cX4_takeNumber 60 = .ok (.getfield 9, 3) := by decide +kernel
theorem dX4_takeNumber_63 : decode cX4_takeNumber 63 = .ok (.aload_n 0, 1) := by decide +kernel
theorem dX4_takeNumber_64 : decode cX4_takeNumber 64 = .ok (.getfield 19, 3) := by decide +kernel
theorem dX4_takeNumber_67 : decode cX4_takeNumber 67 = .ok (.baload, 1) := by decide +kernel
theorem dX4_takeNumber_68 : decode cX4_takeNumber 68 = .ok (.iadd, 1) := by decide +kernel
theorem dX4_takeNumber_69 : decode cX4_takeNumber 69 = .ok (.bipush 48, 2) := by decide +kernel
theorem dX4_takeNumber_71 : decode cX4_takeNumber 71 = .ok (.isub, 1) := by decide +kernel
theorem dX4_takeNumber_72 : decode cX4_takeNumber 72 = .ok (.putfield 66, 3) := by decide +kernel
theorem dX4_takeNumber_75 : decode cX4_takeNumber 75 = .ok (.aload_n 0, 1) := by decide +kernel
theorem dX4_takeNumber_76 : decode cX4_takeNumber 76 = .ok (.dup, 1) := by decide +kernel
theorem dX4_takeNumber_77 : decode cX4_takeNumber 77 = .ok (.getfield 19, 3) := by decide +kernel
theorem dX4_takeNumber_80 : decode cX4_takeNumber 80 = .ok (.iconst 1, 1) := by decide +kernel
theorem dX4_takeNumber_81 : decode cX4_takeNumber 81 = .ok (.iadd, 1) := by decide +kernel
theorem dX4_takeNumber_82 : decode cX4_takeNumber 82 = .ok (.putfield 19, 3) := by decide +kernel
theorem dX4_takeNumber_85 : decode cX4_takeNumber 85 = .ok (.iinc 1 1, 3) := by decide +kernel
theorem dX4_takeNumber_88 : decode cX4_takeNumber 88 = .ok (.goto (-81), 3) := by decide +kernel
theorem dX4_takeNumber_91 : decode cX4_takeNumber 91 = .ok (.iload_n 1, 1) := by decide +kernel
theorem dX4_takeNumber_92 : decode cX4_takeNumber 92 = .ok (.ifCond .le 7, 3) := by decide +kernel
theorem dX4_takeNumber_95 : decode cX4_takeNumber 95 = .ok (.iconst 1, 1) := by decide +kernel
theorem dX4_takeNumber_96 : decode cX4_takeNumber 96 = .ok (.goto 4, 3) := by decide +kernel
theorem dX4_takeNumber_99 : decode cX4_takeNumber 99 = .ok (.iconst 0, 1) := by decide +kernel
theorem dX4_takeNumber_100 : decode cX4_takeNumber 100 = .ok (.ireturn, 1) := by decide +kernel
theorem dX4_takeAll_0 : decode cX4_takeAll 0 = .ok (.iconst 0, 1) := by decide +kernel
theorem dX4_takeAll_1 : decode cX4_takeAll 1 = .ok (.istore_n 2, 1) := by decide +kernel
theorem dX4_takeAll_2 : decode cX4_takeAll 2 = .ok (.iload_n 2, 1) := by decide +kernel
theorem dX4_takeAll_3 : decode cX4_takeAll 3 = .ok (.aload_n 1, 1) := by decide +kernel
theorem dX4_takeAll_4 : decode cX4_takeAll 4 = .ok (.invokevirtual 92, 3) := by decide +kernel
theorem dX4_takeAll_7 : decode cX4_takeAll 7 = .ok (.if_icmp .ge 23, 3) := by decide +kernel
theorem dX4_takeAll_10 : decode cX4_takeAll 10 = .ok (.aload_n 0, 1) := by decide +kernel
theorem dX4_takeAll_11 : decode cX4_takeAll 11 = .ok (.aload_n 1, 1) := by decide +kernel
theorem dX4_takeAll_12 : decode cX4_takeAll 12 = .ok (.iload_n 2, 1) := by decide +kernel
theorem dX4_takeAll_13 : decode cX4_takeAll 13 = .ok (.invokevirtual 94, 3) := by decide +kernel
theorem dX4_takeAll_16 : decode cX4_takeAll 16 = .ok (.invokevirtual 36, 3) := by decide +kernel
theorem dX4_takeAll_19 : decode cX4_takeAll 19 = .ok (.ifCond .ne 5, 3) := by decide +kernel
theorem dX4_takeAll_22 : decode cX4_takeAll 22 = .ok (.iconst 0, 1) := by decide +kernel
theorem dX4_takeAll_23 : decode cX4_takeAll 23 = .ok (.ireturn, 1) := by decide +kernel
theorem dX4_takeAll_24 : decode cX4_takeAll 24 = .ok (.iinc 2 1, 3) := by decide +kernel
theorem dX4_takeAll_27 : decode cX4_takeAll 27 = .ok (.goto (-25), 3) := by decide +kernel
theorem dX4_takeAll_30 : decode cX4_takeAll 30 = .ok (.iconst 1, 1) := by decide +kernel
theorem dX4_takeAll_31 : decode cX4_takeAll 31 = .ok (.ireturn, 1) := by decide +kernel
theorem dX4_take_0 : decode cX4_take 0 = .ok (.aload_n 0, 1) := by decide +kernel
theorem dX4_take_1 : decode cX4_take 1 = .ok (.invokevirtual 51, 3) := by decide +kernel
theorem dX4_take_4 : decode cX4_take 4 = .ok (.iload_n 1, 1) := by decide +kernel
theorem dX4_take_5 : decode cX4_take 5 = .ok (.if_icmp .eq 5, 3) := by decide +kernel
theorem dX4_take_8 : decode cX4_take 8 = .ok (.iconst 0, 1) := by decide +kernel
theorem dX4_take_9 : decode cX4_take 9 = .ok (.ireturn, 1) := by decide +kernel
theorem dX4_take_10 : decode cX4_take 10 = .ok (.aload_n 0, 1) := by decide +kernel
theorem dX4_take_11 : decode cX4_take 11 = .ok (.dup, 1) := by decide +kernel
theorem dX4_take_12 : decode cX4_take 12 = .ok (.getfield 19, 3) := by decide +kernel
theorem dX4_take_15 : decode cX4_take 15 = .ok (.iconst 1, 1) := by decide +kernel
theorem dX4_take_16 : decode cX4_take 16 = .ok (.iadd, 1) := by decide +kernel
theorem dX4_take_17 : decode cX4_take 17 = .ok (.putfield 19, 3) := by decide +kernel
theorem dX4_take_20 : decode cX4_take 20 = .ok (.iconst 1, 1) := by decide +kernel
theorem dX4_take_21 : decode cX4_take 21 = .ok (.ireturn, 1) := by decide +kernel
theorem dX4_next_0 : decode cX4_next 0 = .ok (.aload_n 0, 1) := by decide +kernel
theorem dX4_next_1 : decode cX4_next 1 = .ok (.getfield 19, 3) := by decide +kernel
theorem dX4_next_4 : decode cX4_next 4 = .ok (.aload_n 0, 1) := by decide +kernel
theorem dX4_next_5 : decode cX4_next 5 = .ok (.getfield 33, 3) := by decide +kernel
theorem dX4_next_8 : decode cX4_next 8 = .ok (.if_icmp .ge 15, 3) := by decide +kernel
theorem dX4_next_11 : decode cX4_next 11 = .ok (.aload_n 0, 1) := by decide +kernel
theorem dX4_next_12 : decode cX4_next 12 = .ok (.getfield 9, 3) := by decide +kernel
theorem dX4_next_15 : decode cX4_next 15 = .ok (.aload_n 0, 1) := by decide +kernel
theorem dX4_next_16 : decode cX4_next 16 = .ok (.getfield 19, 3) := by decide +kernel
theorem dX4_next_19 : decode cX4_next 19 = .ok (.baload, 1) := by decide +kernel
theorem dX4_next_20 : decode cX4_next 20 = .ok (.goto 4, 3) := by decide +kernel
theorem dX4_next_23 : decode cX4_next 23 = .ok (.iconst (-1), 1) := by decide +kernel
theorem dX4_next_24 : decode cX4_next 24 = .ok (.ireturn, 1) := by decide +kernel
theorem dX4_addStep_0 : decode cX4_addStep 0 = .ok (.aload_n 0, 1) := by decide +kernel
theorem dX4_addStep_1 : decode cX4_addStep 1 = .ok (.getfield 23, 3) := by decide +kernel
theorem dX4_addStep_4 : decode cX4_addStep 4 = .ok (.iconst 3, 1) := by decide +kernel
theorem dX4_addStep_5 : decode cX4_addStep 5 = .ok (.iadd, 1) := by decide +kernel
theorem dX4_addStep_6 : decode cX4_addStep 6 = .ok (.aload_n 0, 1) := by decide +kernel
theorem dX4_addStep_7 : decode cX4_addStep 7 = .ok (.getfield 15, 3) := by decide +kernel
theorem dX4_addStep_10 : decode cX4_addStep 10 = .ok (.arraylength, 1) := by decide +kernel
theorem dX4_addStep_11 : decode cX4_addStep 11 = .ok (.if_icmp .gt 47, 3) := by decide +kernel
theorem dX4_addStep_14 : decode cX4_addStep 14 = .ok (.aload_n 0, 1) := by decide +kernel
theorem dX4_addStep_15 : decode cX4_addStep 15 = .ok (.getfield 15, 3) := by decide +kernel
theorem dX4_addStep_18 : decode cX4_addStep 18 = .ok (.aload_n 0, 1) := by decide +kernel
theorem dX4_addStep_19 : decode cX4_addStep 19 = .ok (.getfield 23, 3) := by decide +kernel
theorem dX4_addStep_22 : decode cX4_addStep 22 = .ok (.iload_n 1, 1) := by decide +kernel
theorem dX4_addStep_23 : decode cX4_addStep 23 = .ok (.iastore, 1) := by decide +kernel
theorem dX4_addStep_24 : decode cX4_addStep 24 = .ok (.aload_n 0, 1) := by decide +kernel
theorem dX4_addStep_25 : decode cX4_addStep 25 = .ok (.getfield 15, 3) := by decide +kernel
theorem dX4_addStep_28 : decode cX4_addStep 28 = .ok (.aload_n 0, 1) := by decide +kernel
theorem dX4_addStep_29 : decode cX4_addStep 29 = .ok (.getfield 23, 3) := by decide +kernel
theorem dX4_addStep_32 : decode cX4_addStep 32 = .ok (.iconst 1, 1) := by decide +kernel
theorem dX4_addStep_33 : decode cX4_addStep 33 = .ok (.iadd, 1) := by decide +kernel
theorem dX4_addStep_34 : decode cX4_addStep 34 = .ok (.iload_n 2, 1) := by decide +kernel
theorem dX4_addStep_35 : decode cX4_addStep 35 = .ok (.iastore, 1) := by decide +kernel
theorem dX4_addStep_36 : decode cX4_addStep 36 = .ok (.aload_n 0, 1) := by decide +kernel
theorem dX4_addStep_37 : decode cX4_addStep 37 = .ok (.getfield 15, 3) := by decide +kernel
theorem dX4_addStep_40 : decode cX4_addStep 40 = .ok (.aload_n 0, 1) := by decide +kernel
theorem dX4_addStep_41 : decode cX4_addStep 41 = .ok (.getfield 23, 3) := by decide +kernel
theorem dX4_addStep_44 : decode cX4_addStep 44 = .ok (.iconst 2, 1) := by decide +kernel
theorem dX4_addStep_45 : decode cX4_addStep 45 = .ok (.iadd, 1) := by decide +kernel
theorem dX4_addStep_46 : decode cX4_addStep 46 = .ok (.iload_n 3, 1) := by decide +kernel
theorem dX4_addStep_47 : decode cX4_addStep 47 = .ok (.iastore, 1) := by decide +kernel
theorem dX4_addStep_48 : decode cX4_addStep 48 = .ok (.aload_n 0, 1) := by decide +kernel
theorem dX4_addStep_49 : decode cX4_addStep 49 = .ok (.dup, 1) := by decide +kernel
theorem dX4_addStep_50 : decode cX4_addStep 50 = .ok (.getfield 23, 3) := by decide +kernel
theorem dX4_addStep_53 : decode cX4_addStep 53 = .ok (.iconst 3, 1) := by decide +kernel
theorem dX4_addStep_54 : decode cX4_addStep 54 = .ok (.iadd, 1) := by decide +kernel
theorem dX4_addStep_55 : decode cX4_addStep 55 = .ok (.putfield 23, 3) := by decide +kernel
theorem dX4_addStep_58 : decode cX4_addStep 58 = .ok (.return_, 1) := by decide +kernel
theorem dX5_init_0 : decode cX5_init 0 = .ok (.aload_n 0, 1) := by decide +kernel
theorem dX5_init_1 : decode cX5_init 1 = .ok (.invokespecial 1, 3) := by decide +kernel
theorem dX5_init_4 : decode cX5_init 4 = .ok (.return_, 1) := by decide +kernel
theorem dX5_brightness_0 : decode cX5_brightness 0 = .ok (.iload_n 3, 1) := by decide +kernel
theorem dX5_brightness_1 : decode cX5_brightness 1 = .ok (.ireturn, 1) := by decide +kernel
theorem dX5_hisses_0 : decode cX5_hisses 0 = .ok (.aload_n 1, 1) := by decide +kernel
theorem dX5_hisses_1 : decode cX5_hisses 1 = .ok (.bipush 10, 2) := by decide +kernel
theorem dX5_hisses_3 : decode cX5_hisses 3 = .ok (.invokevirtual 7, 3) := by decide +kernel
theorem dX5_hisses_6 : decode cX5_hisses 6 = .ok (.iload_n 2, 1) := by decide +kernel
theorem dX5_hisses_7 : decode cX5_hisses 7 = .ok (.aload_n 1, 1) := by decide +kernel
theorem dX5_hisses_8 : decode cX5_hisses 8 = .ok (.getfield 13, 3) := by decide +kernel
theorem dX5_hisses_11 : decode cX5_hisses 11 = .ok (.iadd, 1) := by decide +kernel
theorem dX5_hisses_12 : decode cX5_hisses 12 = .ok (.ireturn, 1) := by decide +kernel
theorem dX5_climbs_0 : decode cX5_climbs 0 = .ok (.aload_n 1, 1) := by decide +kernel
theorem dX5_climbs_1 : decode cX5_climbs 1 = .ok (.bipush 11, 2) := by decide +kernel
theorem dX5_climbs_3 : decode cX5_climbs 3 = .ok (.invokevirtual 7, 3) := by decide +kernel
theorem dX5_climbs_6 : decode cX5_climbs 6 = .ok (.aload_n 0, 1) := by decide +kernel
theorem dX5_climbs_7 : decode cX5_climbs 7 = .ok (.aload_n 1, 1) := by decide +kernel
theorem dX5_climbs_8 : decode cX5_climbs 8 = .ok (.iload_n 2, 1) := by decide +kernel
theorem dX5_climbs_9 : decode cX5_climbs 9 = .ok (.invokevirtual 17, 3) := by decide +kernel
theorem dX5_climbs_12 : decode cX5_climbs 12 = .ok (.aload_n 1, 1) := by decide +kernel
theorem dX5_climbs_13 : decode cX5_climbs 13 = .ok (.getfield 23, 3) := by decide +kernel
theorem dX5_climbs_16 : decode cX5_climbs 16 = .ok (.isub, 1) := by decide +kernel
theorem dX5_climbs_17 : decode cX5_climbs 17 = .ok (.ireturn, 1) := by decide +kernel
theorem dX5_tells_0 : decode cX5_tells 0 = .ok (.aload_n 1, 1) := by decide +kernel
theorem dX5_tells_1 : decode cX5_tells 1 = .ok (.bipush 12, 2) := by decide +kernel
theorem dX5_tells_3 : decode cX5_tells 3 = .ok (.invokevirtual 7, 3) := by decide +kernel
theorem dX5_tells_6 : decode cX5_tells 6 = .ok (.aload_n 0, 1) := by decide +kernel
theorem dX5_tells_7 : decode cX5_tells 7 = .ok (.aload_n 1, 1) := by decide +kernel
theorem dX5_tells_8 : decode cX5_tells 8 = .ok (.iload_n 2, 1) := by decide +kernel
theorem dX5_tells_9 : decode cX5_tells 9 = .ok (.invokevirtual 26, 3) := by decide +kernel
theorem dX5_tells_12 : decode cX5_tells 12 = .ok (.iconst 2, 1) := by decide +kernel
theorem dX5_tells_13 : decode cX5_tells 13 = .ok (.imul, 1) := by decide +kernel
theorem dX5_tells_14 : decode cX5_tells 14 = .ok (.ireturn, 1) := by decide +kernel
theorem dX6_init_0 : decode cX6_init 0 = .ok (.aload_n 0, 1) := by decide +kernel
theorem dX6_init_1 : decode cX6_init 1 = .ok (.invokespecial 3, 3) := by decide +kernel
theorem dX6_init_4 : decode cX6_init 4 = .ok (.aload_n 0, 1) := by decide +kernel
theorem dX6_init_5 : decode cX6_init 5 = .ok (.aload_n 1, 1) := by decide +kernel
theorem dX6_init_6 : decode cX6_init 6 = .ok (.putfield 9, 3) := by decide +kernel
theorem dX6_init_9 : decode cX6_init 9 = .ok (.aload_n 0, 1) := by decide +kernel
theorem dX6_init_10 : decode cX6_init 10 = .ok (.iload_n 2, 1) := by decide +kernel
theorem dX6_init_11 : decode cX6_init 11 = .ok (.putfield 15, 3) := by decide +kernel
theorem dX6_init_14 : decode cX6_init 14 = .ok (.return_, 1) := by decide +kernel
theorem dX6_brightens_0 : decode cX6_brightens 0 = .ok (.iconst 0, 1) := by decide +kernel
theorem dX6_brightens_1 : decode cX6_brightens 1 = .ok (.istore 4, 2) := by decide +kernel
theorem dX6_brightens_3 : decode cX6_brightens 3 = .ok (.iconst 0, 1) := by decide +kernel
theorem dX6_brightens_4 : decode cX6_brightens 4 = .ok (.istore 5, 2) := by decide +kernel
theorem dX6_brightens_6 : decode cX6_brightens 6 = .ok (.iconst 0, 1) := by decide +kernel
theorem dX6_brightens_7 : decode cX6_brightens 7 = .ok (.istore 6, 2) := by decide +kernel
theorem dX6_brightens_9 : decode cX6_brightens 9 = .ok (.iload 6, 2) := by decide +kernel
theorem dX6_brightens_11 : decode cX6_brightens 11 = .ok (.iconst 3, 1) := by decide +kernel
theorem dX6_brightens_12 : decode cX6_brightens 12 = .ok (.iadd, 1) := by decide +kernel
theorem dX6_brightens_13 : decode cX6_brightens 13 = .ok (.aload_n 0, 1) := by decide +kernel
theorem dX6_brightens_14 : decode cX6_brightens 14 = .ok (.getfield 9, 3) := by decide +kernel
theorem dX6_brightens_17 : decode cX6_brightens 17 = .ok (.arraylength, 1) := by decide +kernel
theorem dX6_brightens_18 : decode cX6_brightens 18 = .ok (.if_icmp .gt 186, 3) := by decide +kernel
theorem dX6_brightens_21 : decode cX6_brightens 21 = .ok (.aload_n 0, 1) := by decide +kernel
theorem dX6_brightens_22 : decode cX6_brightens 22 = .ok (.getfield 9, 3) := by decide +kernel
theorem dX6_brightens_25 : decode cX6_brightens 25 = .ok (.iload 6, 2) := by decide +kernel
theorem dX6_brightens_27 : decode cX6_brightens 27 = .ok (.iaload, 1) := by decide +kernel
theorem dX6_brightens_28 : decode cX6_brightens 28 = .ok (.istore 7, 2) := by decide +kernel
theorem dX6_brightens_30 : decode cX6_brightens 30 = .ok (.iload 5, 2) := by decide +kernel
theorem dX6_brightens_32 : decode cX6_brightens 32 = .ok (.iconst 1, 1) := by decide +kernel
theorem dX6_brightens_33 : decode cX6_brightens 33 = .ok (.iand, 1) := by decide +kernel
theorem dX6_brightens_34 : decode cX6_brightens 34 = .ok (.istore 8, 2) := by decide +kernel
theorem dX6_brightens_36 : decode cX6_brightens 36 = .ok (.iload 7, 2) := by decide +kernel
theorem dX6_brightens_38 : decode cX6_brightens 38 = .ok (.iconst 3, 1) := by decide +kernel
theorem dX6_brightens_39 : decode cX6_brightens 39 = .ok (.if_icmp .ne 12, 3) := by decide +kernel
theorem dX6_brightens_42 : decode cX6_brightens 42 = .ok (.iload 5, 2) := by decide +kernel
theorem dX6_brightens_44 : decode cX6_brightens 44 = .ok (.iconst 1, 1) := by decide +kernel
theorem dX6_brightens_45 : decode cX6_brightens 45 = .ok (.ixor, 1) := by decide +kernel
theorem dX6_brightens_46 : decode cX6_brightens 46 = .ok (.istore 5, 2) := by decide +kernel
theorem dX6_brightens_48 : decode cX6_brightens 48 = .ok (.goto 150, 3) := by decide +kernel
theorem dX6_brightens_51 : decode cX6_brightens 51 = .ok (.iload 7, 2) := by decide +kernel
theorem dX6_brightens_53 : decode cX6_brightens 53 = .ok (.iconst 4, 1) := by decide +kernel
theorem dX6_brightens_54 : decode cX6_brightens 54 = .ok (.if_icmp .ne 18, 3) := by decide +kernel
theorem dX6_brightens_57 : decode cX6_brightens 57 = .ok (.iload 5, 2) := by decide +kernel
theorem dX6_brightens_59 : decode cX6_brightens 59 = .ok (.iconst 1, 1) := by decide +kernel
theorem dX6_brightens_60 : decode cX6_brightens 60 = .ok (.ishr, 1) := by decide +kernel
theorem dX6_brightens_61 : decode cX6_brightens 61 = .ok (.iload 8, 2) := by decide +kernel
theorem dX6_brightens_63 : decode cX6_brightens 63 = .ok (.bipush (-2), 2) := by decide +kernel
theorem dX6_brightens_65 : decode cX6_brightens 65 = .ok (.ior, 1) := by decide +kernel
theorem dX6_brightens_66 : decode cX6_brightens 66 = .ok (.iand, 1) := by decide +kernel
theorem dX6_brightens_67 : decode cX6_brightens 67 = .ok (.istore 5, 2) := by decide +kernel
theorem dX6_brightens_69 : decode cX6_brightens 69 = .ok (.goto 129, 3) := by decide +kernel
theorem dX6_brightens_72 : decode cX6_brightens 72 = .ok (.iload 7, 2) := by decide +kernel
theorem dX6_brightens_74 : decode cX6_brightens 74 = .ok (.iconst 5, 1) := by decide +kernel
theorem dX6_brightens_75 : decode cX6_brightens 75 = .ok (.if_icmp .ne 15, 3) := by decide +kernel
theorem dX6_brightens_78 : decode cX6_brightens 78 = .ok (.iload 5, 2) := by decide +kernel
theorem dX6_brightens_80 : decode cX6_brightens 80 = .ok (.iconst 1, 1) := by decide +kernel
theorem dX6_brightens_81 : decode cX6_brightens 81 = .ok (.ishr, 1) := by decide +kernel
theorem dX6_brightens_82 : decode cX6_brightens 82 = .ok (.iload 8, 2) := by decide +kernel
theorem dX6_brightens_84 : decode cX6_brightens 84 = .ok (.ior, 1) := by decide +kernel
theorem dX6_brightens_85 : decode cX6_brightens 85 = .ok (.istore 5, 2) := by decide +kernel
theorem dX6_brightens_87 : decode cX6_brightens 87 = .ok (.goto 111, 3) := by decide +kernel
theorem dX6_brightens_90 : decode cX6_brightens 90 = .ok (.iload 7, 2) := by decide +kernel
theorem dX6_brightens_92 : decode cX6_brightens 92 = .ok (.bipush 6, 2) := by decide +kernel
theorem dX6_brightens_94 : decode cX6_brightens 94 = .ok (.if_icmp .eq 10, 3) := by decide +kernel
theorem dX6_brightens_97 : decode cX6_brightens 97 = .ok (.iload 7, 2) := by decide +kernel
theorem dX6_brightens_99 : decode cX6_brightens 99 = .ok (.bipush 7, 2) := by decide +kernel
theorem dX6_brightens_101 : decode cX6_brightens 101 = .ok (.if_icmp .ne 49, 3) := by decide +kernel
theorem dX6_brightens_104 : decode cX6_brightens 104 = .ok (.iload 4, 2) := by decide +kernel
theorem dX6_brightens_106 : decode cX6_brightens 106 = .ok (.iload 8, 2) := by decide +kernel
theorem dX6_brightens_108 : decode cX6_brightens 108 = .ok (.iload 7, 2) := by decide +kernel
theorem dX6_brightens_110 : decode cX6_brightens 110 = .ok (.bipush 6, 2) := by decide +kernel
theorem dX6_brightens_112 : decode cX6_brightens 112 = .ok (.if_icmp .ne 15, 3) := by decide +kernel
theorem dX6_brightens_115 : decode cX6_brightens 115 = .ok (.aload_n 0, 1) := by decide +kernel
theorem dX6_brightens_116 : decode cX6_brightens 116 = .ok (.getfield 9, 3) := by decide +kernel
theorem dX6_brightens_119 : decode cX6_brightens 119 = .ok (.iload 6, 2) := by decide +kernel
theorem dX6_brightens_121 : decode cX6_brightens 121 = .ok (.iconst 1, 1) := by decide +kernel
theorem dX6_brightens_122 : decode cX6_brightens 122 = .ok (.iadd, 1) := by decide +kernel
theorem dX6_brightens_123 : decode cX6_brightens 123 = .ok (.iaload, 1) := by decide +kernel
theorem dX6_brightens_124 : decode cX6_brightens 124 = .ok (.goto 13, 3) := by decide +kernel
theorem dX6_brightens_127 : decode cX6_brightens 127 = .ok (.aload_n 0, 1) := by decide +kernel
theorem dX6_brightens_128 : decode cX6_brightens 128 = .ok (.getfield 9, 3) := by decide +kernel
theorem dX6_brightens_131 : decode cX6_brightens 131 = .ok (.iload 6, 2) := by decide +kernel
theorem dX6_brightens_133 : decode cX6_brightens 133 = .ok (.iconst 1, 1) := by decide +kernel
theorem dX6_brightens_134 : decode cX6_brightens 134 = .ok (.iadd, 1) := by decide +kernel
theorem dX6_brightens_135 : decode cX6_brightens 135 = .ok (.iaload, 1) := by decide +kernel
theorem dX6_brightens_136 : decode cX6_brightens 136 = .ok (.ineg, 1) := by decide +kernel
theorem dX6_brightens_137 : decode cX6_brightens 137 = .ok (.imul, 1) := by decide +kernel
theorem dX6_brightens_138 : decode cX6_brightens 138 = .ok (.iadd, 1) := by decide +kernel
theorem dX6_brightens_139 : decode cX6_brightens 139 = .ok (.istore 4, 2) := by decide +kernel
theorem dX6_brightens_141 : decode cX6_brightens 141 = .ok (.iload 5, 2) := by decide +kernel
theorem dX6_brightens_143 : decode cX6_brightens 143 = .ok (.iconst 1, 1) := by decide +kernel
theorem dX6_brightens_144 : decode cX6_brightens 144 = .ok (.ishr, 1) := by decide +kernel
theorem dX6_brightens_145 : decode cX6_brightens 145 = .ok (.istore 5, 2) := by decide +kernel
theorem dX6_brightens_147 : decode cX6_brightens 147 = .ok (.goto 51, 3) := by decide +kernel
theorem dX6_brightens_150 : decode cX6_brightens 150 = .ok (.aload_n 0, 1) := by decide +kernel
theorem dX6_brightens_151 : decode cX6_brightens 151 = .ok (.getfield 9, 3) := by decide +kernel
theorem dX6_brightens_154 : decode cX6_brightens 154 = .ok (.iload 6, 2) := by decide +kernel
theorem dX6_brightens_156 : decode cX6_brightens 156 = .ok (.iconst 1, 1) := by decide +kernel
theorem dX6_brightens_157 : decode cX6_brightens 157 = .ok (.iadd, 1) := by decide +kernel
theorem dX6_brightens_158 : decode cX6_brightens 158 = .ok (.iaload, 1) := by decide +kernel
theorem dX6_brightens_159 : decode cX6_brightens 159 = .ok (.iload_n 1, 1) := by decide +kernel
theorem dX6_brightens_160 : decode cX6_brightens 160 = .ok (.aload_n 2, 1) := by decide +kernel
theorem dX6_brightens_161 : decode cX6_brightens 161 = .ok (.iload_n 3, 1) := by decide +kernel
theorem dX6_brightens_162 : decode cX6_brightens 162 = .ok (.invokestatic 19, 3) := by decide +kernel
theorem dX6_brightens_165 : decode cX6_brightens 165 = .ok (.istore 9, 2) := by decide +kernel
theorem dX6_brightens_167 : decode cX6_brightens 167 = .ok (.iload 5, 2) := by decide +kernel
theorem dX6_brightens_169 : decode cX6_brightens 169 = .ok (.iconst 1, 1) := by decide +kernel
theorem dX6_brightens_170 : decode cX6_brightens 170 = .ok (.ishl, 1) := by decide +kernel
theorem dX6_brightens_171 : decode cX6_brightens 171 = .ok (.iload 7, 2) := by decide +kernel
theorem dX6_brightens_173 : decode cX6_brightens 173 = .ok (.iload 9, 2) := by decide +kernel
theorem dX6_brightens_175 : decode cX6_brightens 175 = .ok (.aload_n 0, 1) := by decide +kernel
theorem dX6_brightens_176 : decode cX6_brightens 176 = .ok (.getfield 9, 3) := by decide +kernel
theorem dX6_brightens_179 : decode cX6_brightens 179 = .ok (.iload 6, 2) := by decide +kernel
theorem dX6_brightens_181 : decode cX6_brightens 181 = .ok (.iconst 2, 1) := by decide +kernel
theorem dX6_brightens_182 : decode cX6_brightens 182 = .ok (.iadd, 1) := by decide +kernel
theorem dX6_brightens_183 : decode cX6_brightens 183 = .ok (.iaload, 1) := by decide +kernel
theorem dX6_brightens_184 : decode cX6_brightens 184 = .ok (.invokestatic 23, 3) := by decide +kernel
theorem dX6_brightens_187 : decode cX6_brightens 187 = .ok (.ifCond .eq 7, 3) := by decide +kernel
theorem dX6_brightens_190 : decode cX6_brightens 190 = .ok (.iconst 1, 1) := by decide +kernel
theorem dX6_brightens_191 : decode cX6_brightens 191 = .ok (.goto 4, 3) := by decide +kernel
theorem dX6_brightens_194 : decode cX6_brightens 194 = .ok (.iconst 0, 1) := by decide +kernel
theorem dX6_brightens_195 : decode cX6_brightens 195 = .ok (.ior, 1) := by decide +kernel
theorem dX6_brightens_196 : decode cX6_brightens 196 = .ok (.istore 5, 2) := by decide +kernel
theorem dX6_brightens_198 : decode cX6_brightens 198 = .ok (.iinc 6 3, 3) := by decide +kernel
theorem dX6_brightens_201 : decode cX6_brightens 201 = .ok (.goto (-192), 3) := by decide +kernel
theorem dX6_brightens_204 : decode cX6_brightens 204 = .ok (.iload 4, 2) := by decide +kernel
theorem dX6_brightens_206 : decode cX6_brightens 206 = .ok (.ireturn, 1) := by decide +kernel
theorem dX6_operand_0 : decode cX6_operand 0 = .ok (.iload_n 0, 1) := by decide +kernel
theorem dX6_operand_1 : decode cX6_operand 1 = .ok (.tableswitch 88 107 119 #[69, 88, 88, 88, 88, 67, 88, 88, 77, 88, 88, 73, 81], 67) := by decide +kernel
theorem dX6_operand_68 : decode cX6_operand 68 = .ok (.iload_n 1, 1) := by decide +kernel
theorem dX6_operand_69 : decode cX6_operand 69 = .ok (.ireturn, 1) := by decide +kernel
theorem dX6_operand_70 : decode cX6_operand 70 = .ok (.aload_n 2, 1) := by decide +kernel
theorem dX6_operand_71 : decode cX6_operand 71 = .ok (.iconst 0, 1) := by decide +kernel
theorem dX6_operand_72 : decode cX6_operand 72 = .ok (.iaload, 1) := by decide +kernel
theorem dX6_operand_73 : decode cX6_operand 73 = .ok (.ireturn, 1) := by decide +kernel
theorem dX6_operand_74 : decode cX6_operand 74 = .ok (.aload_n 2, 1) := by decide +kernel
theorem dX6_operand_75 : decode cX6_operand 75 = .ok (.iconst 1, 1) := by decide +kernel
theorem dX6_operand_76 : decode cX6_operand 76 = .ok (.iaload, 1) := by decide +kernel
theorem dX6_operand_77 : decode cX6_operand 77 = .ok (.ireturn, 1) := by decide +kernel
theorem dX6_operand_78 : decode cX6_operand 78 = .ok (.aload_n 2, 1) := by decide +kernel
theorem dX6_operand_79 : decode cX6_operand 79 = .ok (.iconst 2, 1) := by decide +kernel
theorem dX6_operand_80 : decode cX6_operand 80 = .ok (.iaload, 1) := by decide +kernel
theorem dX6_operand_81 : decode cX6_operand 81 = .ok (.ireturn, 1) := by decide +kernel
theorem dX6_operand_82 : decode cX6_operand 82 = .ok (.aload_n 2, 1) := by decide +kernel
theorem dX6_operand_83 : decode cX6_operand 83 = .ok (.iconst 4, 1) := by decide +kernel
theorem dX6_operand_84 : decode cX6_operand 84 = .ok (.iaload, 1) := by decide +kernel
theorem dX6_operand_85 : decode cX6_operand 85 = .ok (.bipush 10, 2) := by decide +kernel
theorem dX6_operand_87 : decode cX6_operand 87 = .ok (.idiv, 1) := by decide +kernel
theorem dX6_operand_88 : decode cX6_operand 88 = .ok (.ireturn, 1) := by decide +kernel
theorem dX6_operand_89 : decode cX6_operand 89 = .ok (.iload_n 3, 1) := by decide +kernel
theorem dX6_operand_90 : decode cX6_operand 90 = .ok (.bipush 10, 2) := by decide +kernel
theorem dX6_operand_92 : decode cX6_operand 92 = .ok (.irem, 1) := by decide +kernel
theorem dX6_operand_93 : decode cX6_operand 93 = .ok (.ireturn, 1) := by decide +kernel
theorem dX6_compares_0 : decode cX6_compares 0 = .ok (.iload_n 0, 1) := by decide +kernel
theorem dX6_compares_1 : decode cX6_compares 1 = .ok (.iconst 1, 1) := by decide +kernel
theorem dX6_compares_2 : decode cX6_compares 2 = .ok (.if_icmp .ne 14, 3) := by decide +kernel
theorem dX6_compares_5 : decode cX6_compares 5 = .ok (.iload_n 1, 1) := by decide +kernel
theorem dX6_compares_6 : decode cX6_compares 6 = .ok (.iload_n 2, 1) := by decide +kernel
theorem dX6_compares_7 : decode cX6_compares 7 = .ok (.if_icmp .ne 7, 3) := by decide +kernel
theorem dX6_compares_10 : decode cX6_compares 10 = .ok (.iconst 1, 1) := by decide +kernel
theorem dX6_compares_11 : decode cX6_compares 11 = .ok (.goto 4, 3) := by decide +kernel
theorem dX6_compares_14 : decode cX6_compares 14 = .ok (.iconst 0, 1) := by decide +kernel
theorem dX6_compares_15 : decode cX6_compares 15 = .ok (.ireturn, 1) := by decide +kernel
theorem dX6_compares_16 : decode cX6_compares 16 = .ok (.iload_n 0, 1) := by decide +kernel
theorem dX6_compares_17 : decode cX6_compares 17 = .ok (.ifCond .ne 16, 3) := by decide +kernel
theorem dX6_compares_20 : decode cX6_compares 20 = .ok (.iload_n 1, 1) := by decide +kernel
theorem dX6_compares_21 : decode cX6_compares 21 = .ok (.iload_n 2, 1) := by decide +kernel
theorem dX6_compares_22 : decode cX6_compares 22 = .ok (.if_icmp .ge 7, 3) := by decide +kernel
theorem dX6_compares_25 : decode cX6_compares 25 = .ok (.iconst 1, 1) := by decide +kernel
theorem dX6_compares_26 : decode cX6_compares 26 = .ok (.goto 17, 3) := by decide +kernel
theorem dX6_compares_29 : decode cX6_compares 29 = .ok (.iconst 0, 1) := by decide +kernel
theorem dX6_compares_30 : decode cX6_compares 30 = .ok (.goto 13, 3) := by decide +kernel
theorem dX6_compares_33 : decode cX6_compares 33 = .ok (.iload_n 1, 1) := by decide +kernel
theorem dX6_compares_34 : decode cX6_compares 34 = .ok (.iload_n 2, 1) := by decide +kernel
theorem dX6_compares_35 : decode cX6_compares 35 = .ok (.if_icmp .le 7, 3) := by decide +kernel
theorem dX6_compares_38 : decode cX6_compares 38 = .ok (.iconst 1, 1) := by decide +kernel
theorem dX6_compares_39 : decode cX6_compares 39 = .ok (.goto 4, 3) := by decide +kernel
theorem dX6_compares_42 : decode cX6_compares 42 = .ok (.iconst 0, 1) := by decide +kernel
theorem dX6_compares_43 : decode cX6_compares 43 = .ok (.ireturn, 1) := by decide +kernel
theorem dX7_init_0 : decode cX7_init 0 = .ok (.aload_n 0, 1) := by decide +kernel
theorem dX7_init_1 : decode cX7_init 1 = .ok (.invokespecial 3, 3) := by decide +kernel
theorem dX7_init_4 : decode cX7_init 4 = .ok (.return_, 1) := by decide +kernel
theorem dX7_brightness_0 : decode cX7_brightness 0 = .ok (.aload_n 0, 1) := by decide +kernel
theorem dX7_brightness_1 : decode cX7_brightness 1 = .ok (.aload_n 1, 1) := by decide +kernel
theorem dX7_brightness_2 : decode cX7_brightness 2 = .ok (.aload_n 2, 1) := by decide +kernel
theorem dX7_brightness_3 : decode cX7_brightness 3 = .ok (.iload_n 3, 1) := by decide +kernel
theorem dX7_brightness_4 : decode cX7_brightness 4 = .ok (.invokespecial 9, 3) := by decide +kernel
theorem dX7_brightness_7 : decode cX7_brightness 7 = .ok (.aload_n 2, 1) := by decide +kernel
theorem dX7_brightness_8 : decode cX7_brightness 8 = .ok (.bipush 6, 2) := by decide +kernel
theorem dX7_brightness_10 : decode cX7_brightness 10 = .ok (.aload_n 1, 1) := by decide +kernel
theorem dX7_brightness_11 : decode cX7_brightness 11 = .ok (.getfield 13, 3) := by decide +kernel
theorem dX7_brightness_14 : decode cX7_brightness 14 = .ok (.iconst 4, 1) := by decide +kernel
theorem dX7_brightness_15 : decode cX7_brightness 15 = .ok (.irem, 1) := by decide +kernel
theorem dX7_brightness_16 : decode cX7_brightness 16 = .ok (.iadd, 1) := by decide +kernel
theorem dX7_brightness_17 : decode cX7_brightness 17 = .ok (.iaload, 1) := by decide +kernel
theorem dX7_brightness_18 : decode cX7_brightness 18 = .ok (.iadd, 1) := by decide +kernel
theorem dX7_brightness_19 : decode cX7_brightness 19 = .ok (.ireturn, 1) := by decide +kernel
theorem dX7_climbs_0 : decode cX7_climbs 0 = .ok (.aload_n 1, 1) := by decide +kernel
theorem dX7_climbs_1 : decode cX7_climbs 1 = .ok (.bipush 70, 2) := by decide +kernel
theorem dX7_climbs_3 : decode cX7_climbs 3 = .ok (.invokevirtual 19, 3) := by decide +kernel
theorem dX7_climbs_6 : decode cX7_climbs 6 = .ok (.aload_n 0, 1) := by decide +kernel
theorem dX7_climbs_7 : decode cX7_climbs 7 = .ok (.aload_n 1, 1) := by decide +kernel
theorem dX7_climbs_8 : decode cX7_climbs 8 = .ok (.iload_n 2, 1) := by decide +kernel
theorem dX7_climbs_9 : decode cX7_climbs 9 = .ok (.invokespecial 25, 3) := by decide +kernel
theorem dX7_climbs_12 : decode cX7_climbs 12 = .ok (.aload_n 0, 1) := by decide +kernel
theorem dX7_climbs_13 : decode cX7_climbs 13 = .ok (.aload_n 1, 1) := by decide +kernel
theorem dX7_climbs_14 : decode cX7_climbs 14 = .ok (.iconst 2, 1) := by decide +kernel
theorem dX7_climbs_15 : decode cX7_climbs 15 = .ok (.invokespecial 29, 3) := by decide +kernel
theorem dX7_climbs_18 : decode cX7_climbs 18 = .ok (.iadd, 1) := by decide +kernel
theorem dX7_climbs_19 : decode cX7_climbs 19 = .ok (.ireturn, 1) := by decide +kernel
theorem dX7_hisses_0 : decode cX7_hisses 0 = .ok (.aload_n 1, 1) := by decide +kernel
theorem dX7_hisses_1 : decode cX7_hisses 1 = .ok (.bipush 71, 2) := by decide +kernel
theorem dX7_hisses_3 : decode cX7_hisses 3 = .ok (.invokevirtual 19, 3) := by decide +kernel
theorem dX7_hisses_6 : decode cX7_hisses 6 = .ok (.aload_n 0, 1) := by decide +kernel
theorem dX7_hisses_7 : decode cX7_hisses 7 = .ok (.aload_n 1, 1) := by decide +kernel
theorem dX7_hisses_8 : decode cX7_hisses 8 = .ok (.iload_n 2, 1) := by decide +kernel
theorem dX7_hisses_9 : decode cX7_hisses 9 = .ok (.invokespecial 29, 3) := by decide +kernel
theorem dX7_hisses_12 : decode cX7_hisses 12 = .ok (.aload_n 1, 1) := by decide +kernel
theorem dX7_hisses_13 : decode cX7_hisses 13 = .ok (.getfield 32, 3) := by decide +kernel
theorem dX7_hisses_16 : decode cX7_hisses 16 = .ok (.ixor, 1) := by decide +kernel
theorem dX7_hisses_17 : decode cX7_hisses 17 = .ok (.ireturn, 1) := by decide +kernel
theorem dX8_init_0 : decode cX8_init 0 = .ok (.aload_n 0, 1) := by decide +kernel
theorem dX8_init_1 : decode cX8_init 1 = .ok (.invokespecial 1, 3) := by decide +kernel
theorem dX8_init_4 : decode cX8_init 4 = .ok (.return_, 1) := by decide +kernel
theorem dX8_brightness_0 : decode cX8_brightness 0 = .ok (.aload_n 0, 1) := by decide +kernel
theorem dX8_brightness_1 : decode cX8_brightness 1 = .ok (.aload_n 1, 1) := by decide +kernel
theorem dX8_brightness_2 : decode cX8_brightness 2 = .ok (.aload_n 2, 1) := by decide +kernel
theorem dX8_brightness_3 : decode cX8_brightness 3 = .ok (.iload_n 3, 1) := by decide +kernel
theorem dX8_brightness_4 : decode cX8_brightness 4 = .ok (.invokespecial 7, 3) := by decide +kernel
theorem dX8_brightness_7 : decode cX8_brightness 7 = .ok (.istore 4, 2) := by decide +kernel
theorem dX8_brightness_9 : decode cX8_brightness 9 = .ok (.aload_n 1, 1) := by decide +kernel
theorem dX8_brightness_10 : decode cX8_brightness 10 = .ok (.getfield 11, 3) := by decide +kernel
theorem dX8_brightness_13 : decode cX8_brightness 13 = .ok (.iconst 3, 1) := by decide +kernel
theorem dX8_brightness_14 : decode cX8_brightness 14 = .ok (.irem, 1) := by decide +kernel
theorem dX8_brightness_15 : decode cX8_brightness 15 = .ok (.ifCond .ne 10, 3) := by decide +kernel
theorem dX8_brightness_18 : decode cX8_brightness 18 = .ok (.iconst 2, 1) := by decide +kernel
theorem dX8_brightness_19 : decode cX8_brightness 19 = .ok (.iload 4, 2) := by decide +kernel
theorem dX8_brightness_21 : decode cX8_brightness 21 = .ok (.imul, 1) := by decide +kernel
theorem dX8_brightness_22 : decode cX8_brightness 22 = .ok (.goto 5, 3) := by decide +kernel
theorem dX8_brightness_25 : decode cX8_brightness 25 = .ok (.iload 4, 2) := by decide +kernel
theorem dX8_brightness_27 : decode cX8_brightness 27 = .ok (.ireturn, 1) := by decide +kernel
theorem dX8_tells_0 : decode cX8_tells 0 = .ok (.aload_n 1, 1) := by decide +kernel
theorem dX8_tells_1 : decode cX8_tells 1 = .ok (.bipush 60, 2) := by decide +kernel
theorem dX8_tells_3 : decode cX8_tells 3 = .ok (.invokevirtual 17, 3) := by decide +kernel
theorem dX8_tells_6 : decode cX8_tells 6 = .ok (.aload_n 0, 1) := by decide +kernel
theorem dX8_tells_7 : decode cX8_tells 7 = .ok (.aload_n 1, 1) := by decide +kernel
theorem dX8_tells_8 : decode cX8_tells 8 = .ok (.iload_n 2, 1) := by decide +kernel
theorem dX8_tells_9 : decode cX8_tells 9 = .ok (.aload_n 1, 1) := by decide +kernel
theorem dX8_tells_10 : decode cX8_tells 10 = .ok (.getfield 23, 3) := by decide +kernel
theorem dX8_tells_13 : decode cX8_tells 13 = .ok (.isub, 1) := by decide +kernel
theorem dX8_tells_14 : decode cX8_tells 14 = .ok (.invokespecial 26, 3) := by decide +kernel
theorem dX8_tells_17 : decode cX8_tells 17 = .ok (.ireturn, 1) := by decide +kernel
theorem dX9_init_0 : decode cX9_init 0 = .ok (.aload_n 0, 1) := by decide +kernel
theorem dX9_init_1 : decode cX9_init 1 = .ok (.invokespecial 1, 3) := by decide +kernel
theorem dX9_init_4 : decode cX9_init 4 = .ok (.return_, 1) := by decide +kernel
theorem dX9_brightness_0 : decode cX9_brightness 0 = .ok (.iload_n 3, 1) := by decide +kernel
theorem dX9_brightness_1 : decode cX9_brightness 1 = .ok (.iconst 2, 1) := by decide +kernel
theorem dX9_brightness_2 : decode cX9_brightness 2 = .ok (.idiv, 1) := by decide +kernel
theorem dX9_brightness_3 : decode cX9_brightness 3 = .ok (.ireturn, 1) := by decide +kernel
theorem dX9_hisses_0 : decode cX9_hisses 0 = .ok (.aload_n 1, 1) := by decide +kernel
theorem dX9_hisses_1 : decode cX9_hisses 1 = .ok (.bipush 30, 2) := by decide +kernel
theorem dX9_hisses_3 : decode cX9_hisses 3 = .ok (.invokevirtual 7, 3) := by decide +kernel
theorem dX9_hisses_6 : decode cX9_hisses 6 = .ok (.aload_n 0, 1) := by decide +kernel
theorem dX9_hisses_7 : decode cX9_hisses 7 = .ok (.aload_n 1, 1) := by decide +kernel
theorem dX9_hisses_8 : decode cX9_hisses 8 = .ok (.iload_n 2, 1) := by decide +kernel
theorem dX9_hisses_9 : decode cX9_hisses 9 = .ok (.iconst 3, 1) := by decide +kernel
theorem dX9_hisses_10 : decode cX9_hisses 10 = .ok (.imul, 1) := by decide +kernel
theorem dX9_hisses_11 : decode cX9_hisses 11 = .ok (.invokespecial 13, 3) := by decide +kernel
theorem dX9_hisses_14 : decode cX9_hisses 14 = .ok (.ireturn, 1) := by decide +kernel
theorem dX10_init_0 : decode cX10_init 0 = .ok (.aload_n 0, 1) := by decide +kernel
theorem dX10_init_1 : decode cX10_init 1 = .ok (.invokespecial 3, 3) := by decide +kernel
theorem dX10_init_4 : decode cX10_init 4 = .ok (.aload_n 0, 1) := by decide +kernel
theorem dX10_init_5 : decode cX10_init 5 = .ok (.bipush 7, 2) := by decide +kernel
theorem dX10_init_7 : decode cX10_init 7 = .ok (.anewarray 9, 3) := by decide +kernel
theorem dX10_init_10 : decode cX10_init 10 = .ok (.dup, 1) := by decide +kernel
theorem dX10_init_11 : decode cX10_init 11 = .ok (.iconst 0, 1) := by decide +kernel
theorem dX10_init_12 : decode cX10_init 12 = .ok (.new 9, 3) := by decide +kernel
theorem dX10_init_15 : decode cX10_init 15 = .ok (.dup, 1) := by decide +kernel
theorem dX10_init_16 : decode cX10_init 16 = .ok (.invokespecial 11, 3) := by decide +kernel
theorem dX10_init_19 : decode cX10_init 19 = .ok (.aastore, 1) := by decide +kernel
theorem dX10_init_20 : decode cX10_init 20 = .ok (.dup, 1) := by decide +kernel
theorem dX10_init_21 : decode cX10_init 21 = .ok (.iconst 1, 1) := by decide +kernel
theorem dX10_init_22 : decode cX10_init 22 = .ok (.new 12, 3) := by decide +kernel
theorem dX10_init_25 : decode cX10_init 25 = .ok (.dup, 1) := by decide +kernel
theorem dX10_init_26 : decode cX10_init 26 = .ok (.invokespecial 14, 3) := by decide +kernel
theorem dX10_init_29 : decode cX10_init 29 = .ok (.aastore, 1) := by decide +kernel
theorem dX10_init_30 : decode cX10_init 30 = .ok (.dup, 1) := by decide +kernel
theorem dX10_init_31 : decode cX10_init 31 = .ok (.iconst 2, 1) := by decide +kernel
theorem dX10_init_32 : decode cX10_init 32 = .ok (.new 15, 3) := by decide +kernel
theorem dX10_init_35 : decode cX10_init 35 = .ok (.dup, 1) := by decide +kernel
theorem dX10_init_36 : decode cX10_init 36 = .ok (.invokespecial 17, 3) := by decide +kernel
theorem dX10_init_39 : decode cX10_init 39 = .ok (.aastore, 1) := by decide +kernel
theorem dX10_init_40 : decode cX10_init 40 = .ok (.dup, 1) := by decide +kernel
theorem dX10_init_41 : decode cX10_init 41 = .ok (.iconst 3, 1) := by decide +kernel
theorem dX10_init_42 : decode cX10_init 42 = .ok (.new 18, 3) := by decide +kernel
theorem dX10_init_45 : decode cX10_init 45 = .ok (.dup, 1) := by decide +kernel
theorem dX10_init_46 : decode cX10_init 46 = .ok (.invokespecial 20, 3) := by decide +kernel
theorem dX10_init_49 : decode cX10_init 49 = .ok (.aastore, 1) := by decide +kernel
theorem dX10_init_50 : decode cX10_init 50 = .ok (.dup, 1) := by decide +kernel
theorem dX10_init_51 : decode cX10_init 51 = .ok (.iconst 4, 1) := by decide +kernel
theorem dX10_init_52 : decode cX10_init 52 = .ok (.new 21, 3) := by decide +kernel
theorem dX10_init_55 : decode cX10_init 55 = .ok (.dup, 1) := by decide +kernel
theorem dX10_init_56 : decode cX10_init 56 = .ok (.invokespecial 23, 3) := by decide +kernel
theorem dX10_init_59 : decode cX10_init 59 = .ok (.aastore, 1) := by decide +kernel
theorem dX10_init_60 : decode cX10_init 60 = .ok (.dup, 1) := by decide +kernel
theorem dX10_init_61 : decode cX10_init 61 = .ok (.iconst 5, 1) := by decide +kernel
theorem dX10_init_62 : decode cX10_init 62 = .ok (.new 24, 3) := by decide +kernel
theorem dX10_init_65 : decode cX10_init 65 = .ok (.dup, 1) := by decide +kernel
theorem dX10_init_66 : decode cX10_init 66 = .ok (.invokespecial 26, 3) := by decide +kernel
theorem dX10_init_69 : decode cX10_init 69 = .ok (.aastore, 1) := by decide +kernel
theorem dX10_init_70 : decode cX10_init 70 = .ok (.dup, 1) := by decide +kernel
theorem dX10_init_71 : decode cX10_init 71 = .ok (.bipush 6, 2) := by decide +kernel
theorem dX10_init_73 : decode cX10_init 73 = .ok (.new 27, 3) := by decide +kernel
theorem dX10_init_76 : decode cX10_init 76 = .ok (.dup, 1) := by decide +kernel
theorem dX10_init_77 : decode cX10_init 77 = .ok (.invokespecial 29, 3) := by decide +kernel
theorem dX10_init_80 : decode cX10_init 80 = .ok (.aastore, 1) := by decide +kernel
theorem dX10_init_81 : decode cX10_init 81 = .ok (.putfield 30, 3) := by decide +kernel
theorem dX10_init_84 : decode cX10_init 84 = .ok (.aload_n 0, 1) := by decide +kernel
theorem dX10_init_85 : decode cX10_init 85 = .ok (.bipush 6, 2) := by decide +kernel
theorem dX10_init_87 : decode cX10_init 87 = .ok (.bipush 10, 2) := by decide +kernel
theorem dX10_init_89 : decode cX10_init 89 = .ok (.multianewarray 36 2, 4) := by decide +kernel
theorem dX10_init_93 : decode cX10_init 93 = .ok (.putfield 38, 3) := by decide +kernel
theorem dX10_init_96 : decode cX10_init 96 = .ok (.aload_n 0, 1) := by decide +kernel
theorem dX10_init_97 : decode cX10_init 97 = .ok (.iconst 4, 1) := by decide +kernel
theorem dX10_init_98 : decode cX10_init 98 = .ok (.newarray .int, 2) := by decide +kernel
theorem dX10_init_100 : decode cX10_init 100 = .ok (.putfield 41, 3) := by decide +kernel
theorem dX10_init_103 : decode cX10_init 103 = .ok (.aload_n 0, 1) := by decide +kernel
theorem dX10_init_104 : decode cX10_init 104 = .ok (.iconst 4, 1) := by decide +kernel
theorem dX10_init_105 : decode cX10_init 105 = .ok (.newarray .int, 2) := by decide +kernel
theorem dX10_init_107 : decode cX10_init 107 = .ok (.putfield 45, 3) := by decide +kernel
theorem dX10_init_110 : decode cX10_init 110 = .ok (.aload_n 0, 1) := by decide +kernel
theorem dX10_init_111 : decode cX10_init 111 = .ok (.iconst 5, 1) := by decide +kernel
theorem dX10_init_112 : decode cX10_init 112 = .ok (.newarray .int, 2) := by decide +kernel
theorem dX10_init_114 : decode cX10_init 114 = .ok (.putfield 48, 3) := by decide +kernel
theorem dX10_init_117 : decode cX10_init 117 = .ok (.aload_n 0, 1) := by decide +kernel
theorem dX10_init_118 : decode cX10_init 118 = .ok (.iconst 5, 1) := by decide +kernel
theorem dX10_init_119 : decode cX10_init 119 = .ok (.newarray .int, 2) := by decide +kernel
theorem dX10_init_121 : decode cX10_init 121 = .ok (.putfield 51, 3) := by decide +kernel
theorem dX10_init_124 : decode cX10_init 124 = .ok (.aload_n 0, 1) := by decide +kernel
theorem dX10_init_125 : decode cX10_init 125 = .ok (.iconst 5, 1) := by decide +kernel
theorem dX10_init_126 : decode cX10_init 126 = .ok (.newarray .int, 2) := by decide +kernel
theorem dX10_init_128 : decode cX10_init 128 = .ok (.putfield 54, 3) := by decide +kernel
theorem dX10_init_131 : decode cX10_init 131 = .ok (.aload_n 0, 1) := by decide +kernel
theorem dX10_init_132 : decode cX10_init 132 = .ok (.bipush 10, 2) := by decide +kernel
theorem dX10_init_134 : decode cX10_init 134 = .ok (.newarray .int, 2) := by decide +kernel
theorem dX10_init_136 : decode cX10_init 136 = .ok (.putfield 57, 3) := by decide +kernel
theorem dX10_init_139 : decode cX10_init 139 = .ok (.aload_n 0, 1) := by decide +kernel
theorem dX10_init_140 : decode cX10_init 140 = .ok (.bipush 10, 2) := by decide +kernel
theorem dX10_init_142 : decode cX10_init 142 = .ok (.newarray .int, 2) := by decide +kernel
theorem dX10_init_144 : decode cX10_init 144 = .ok (.putfield 60, 3) := by decide +kernel
theorem dX10_init_147 : decode cX10_init 147 = .ok (.aload_n 0, 1) := by decide +kernel
theorem dX10_init_148 : decode cX10_init 148 = .ok (.bipush 8, 2) := by decide +kernel
