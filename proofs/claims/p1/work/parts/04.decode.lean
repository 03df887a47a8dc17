theorem dX0_init_0 : decode cX0_init 0 = .ok (.aload_n 0, 1) := by decide +kernel
theorem dX0_init_1 : decode cX0_init 1 = .ok (.invokespecial 3, 3) := by decide +kernel
theorem dX0_init_4 : decode cX0_init 4 = .ok (.aload_n 0, 1) := by decide +kernel
theorem dX0_init_5 : decode cX0_init 5 = .ok (.iconst 0, 1) := by decide +kernel
theorem dX0_init_6 : decode cX0_init 6 = .ok (.putfield 9, 3) := by decide +kernel
theorem dX0_init_9 : decode cX0_init 9 = .ok (.aload_n 0, 1) := by decide +kernel
theorem dX0_init_10 : decode cX0_init 10 = .ok (.iconst 0, 1) := by decide +kernel
theorem dX0_init_11 : decode cX0_init 11 = .ok (.putfield 15, 3) := by decide +kernel
theorem dX0_init_14 : decode cX0_init 14 = .ok (.aload_n 0, 1) := by decide +kernel
theorem dX0_init_15 : decode cX0_init 15 = .ok (.iconst 0, 1) := by decide +kernel
theorem dX0_init_16 : decode cX0_init 16 = .ok (.putfield 18, 3) := by decide +kernel
theorem dX0_init_19 : decode cX0_init 19 = .ok (.aload_n 0, 1) := by decide +kernel
theorem dX0_init_20 : decode cX0_init 20 = .ok (.iconst 0, 1) := by decide +kernel
theorem dX0_init_21 : decode cX0_init 21 = .ok (.putfield 21, 3) := by decide +kernel
theorem dX0_init_24 : decode cX0_init 24 = .ok (.aload_n 0, 1) := by decide +kernel
theorem dX0_init_25 : decode cX0_init 25 = .ok (.iload_n 1, 1) := by decide +kernel
theorem dX0_init_26 : decode cX0_init 26 = .ok (.putfield 24, 3) := by decide +kernel
theorem dX0_init_29 : decode cX0_init 29 = .ok (.aload_n 0, 1) := by decide +kernel
theorem dX0_init_30 : decode cX0_init 30 = .ok (.aload_n 2, 1) := by decide +kernel
theorem dX0_init_31 : decode cX0_init 31 = .ok (.putfield 27, 3) := by decide +kernel
theorem dX0_init_34 : decode cX0_init 34 = .ok (.aload_n 0, 1) := by decide +kernel
theorem dX0_init_35 : decode cX0_init 35 = .ok (.iload_n 3, 1) := by decide +kernel
theorem dX0_init_36 : decode cX0_init 36 = .ok (.putfield 31, 3) := by decide +kernel
theorem dX0_init_39 : decode cX0_init 39 = .ok (.aload_n 0, 1) := by decide +kernel
theorem dX0_init_40 : decode cX0_init 40 = .ok (.aload 4, 2) := by decide +kernel
theorem dX0_init_42 : decode cX0_init 42 = .ok (.putfield 34, 3) := by decide +kernel
theorem dX0_init_45 : decode cX0_init 45 = .ok (.aload_n 0, 1) := by decide +kernel
theorem dX0_init_46 : decode cX0_init 46 = .ok (.iload 5, 2) := by decide +kernel
theorem dX0_init_48 : decode cX0_init 48 = .ok (.putfield 37, 3) := by decide +kernel
theorem dX0_init_51 : decode cX0_init 51 = .ok (.aload_n 0, 1) := by decide +kernel
theorem dX0_init_52 : decode cX0_init 52 = .ok (.iload 6, 2) := by decide +kernel
theorem dX0_init_54 : decode cX0_init 54 = .ok (.putfield 41, 3) := by decide +kernel
theorem dX0_init_57 : decode cX0_init 57 = .ok (.iconst 1, 1) := by decide +kernel
theorem dX0_init_58 : decode cX0_init 58 = .ok (.iload_n 1, 1) := by decide +kernel
theorem dX0_init_59 : decode cX0_init 59 = .ok (.ishl, 1) := by decide +kernel
theorem dX0_init_60 : decode cX0_init 60 = .ok (.istore 7, 2) := by decide +kernel
theorem dX0_init_62 : decode cX0_init 62 = .ok (.aload_n 0, 1) := by decide +kernel
theorem dX0_init_63 : decode cX0_init 63 = .ok (.iload 7, 2) := by decide +kernel
theorem dX0_init_65 : decode cX0_init 65 = .ok (.aload_n 2, 1) := by decide +kernel
theorem dX0_init_66 : decode cX0_init 66 = .ok (.ifnonnull 7, 3) := by decide +kernel
theorem dX0_init_69 : decode cX0_init 69 = .ok (.iconst 0, 1) := by decide +kernel
theorem dX0_init_70 : decode cX0_init 70 = .ok (.goto 7, 3) := by decide +kernel
theorem dX0_init_73 : decode cX0_init 73 = .ok (.aload_n 2, 1) := by decide +kernel
theorem dX0_init_74 : decode cX0_init 74 = .ok (.getfield 44, 3) := by decide +kernel
theorem dX0_init_77 : decode cX0_init 77 = .ok (.ior, 1) := by decide +kernel
theorem dX0_init_78 : decode cX0_init 78 = .ok (.putfield 44, 3) := by decide +kernel
theorem dX0_init_81 : decode cX0_init 81 = .ok (.aload_n 0, 1) := by decide +kernel
theorem dX0_init_82 : decode cX0_init 82 = .ok (.iload 7, 2) := by decide +kernel
theorem dX0_init_84 : decode cX0_init 84 = .ok (.aload_n 2, 1) := by decide +kernel
theorem dX0_init_85 : decode cX0_init 85 = .ok (.ifnonnull 7, 3) := by decide +kernel
theorem dX0_init_88 : decode cX0_init 88 = .ok (.iconst 0, 1) := by decide +kernel
theorem dX0_init_89 : decode cX0_init 89 = .ok (.goto 7, 3) := by decide +kernel
theorem dX0_init_92 : decode cX0_init 92 = .ok (.aload_n 2, 1) := by decide +kernel
theorem dX0_init_93 : decode cX0_init 93 = .ok (.getfield 47, 3) := by decide +kernel
theorem dX0_init_96 : decode cX0_init 96 = .ok (.ior, 1) := by decide +kernel
theorem dX0_init_97 : decode cX0_init 97 = .ok (.aload 4, 2) := by decide +kernel
theorem dX0_init_99 : decode cX0_init 99 = .ok (.ifnonnull 7, 3) := by decide +kernel
theorem dX0_init_102 : decode cX0_init 102 = .ok (.iconst 0, 1) := by decide +kernel
theorem dX0_init_103 : decode cX0_init 103 = .ok (.goto 8, 3) := by decide +kernel
theorem dX0_init_111 : decode cX0_init 111 = .ok (.ior, 1) := by decide +kernel
theorem dX0_init_112 : decode cX0_init 112 = .ok (.putfield 47, 3) := by decide +kernel
theorem dX0_init_115 : decode cX0_init 115 = .ok (.return_, 1) := by decide +kernel
theorem dX0_standsUnder_0 : decode cX0_standsUnder 0 = .ok (.aload_n 0, 1) := by decide +kernel
theorem dX0_standsUnder_1 : decode cX0_standsUnder 1 = .ok (.getfield 44, 3) := by decide +kernel
theorem dX0_standsUnder_4 : decode cX0_standsUnder 4 = .ok (.aload_n 1, 1) := by decide +kernel
theorem dX0_standsUnder_5 : decode cX0_standsUnder 5 = .ok (.getfield 24, 3) := by decide +kernel
theorem dX0_standsUnder_8 : decode cX0_standsUnder 8 = .ok (.iushr, 1) := by decide +kernel
theorem dX0_standsUnder_9 : decode cX0_standsUnder 9 = .ok (.iconst 1, 1) := by decide +kernel
theorem dX0_standsUnder_10 : decode cX0_standsUnder 10 = .ok (.iand, 1) := by decide +kernel
theorem dX0_standsUnder_11 : decode cX0_standsUnder 11 = .ok (.ifCond .eq 7, 3) := by decide +kernel
theorem dX0_standsUnder_14 : decode cX0_standsUnder 14 = .ok (.iconst 1, 1) := by decide +kernel
theorem dX0_standsUnder_15 : decode cX0_standsUnder 15 = .ok (.goto 4, 3) := by decide +kernel
theorem dX0_standsUnder_19 : decode cX0_standsUnder 19 = .ok (.ireturn, 1) := by decide +kernel
theorem dX1_init_0 : decode cX1_init 0 = .ok (.aload_n 0, 1) := by decide +kernel
theorem dX1_init_1 : decode cX1_init 1 = .ok (.aload_n 1, 1) := by decide +kernel
theorem dX1_init_2 : decode cX1_init 2 = .ok (.iload 4, 2) := by decide +kernel
theorem dX1_init_4 : decode cX1_init 4 = .ok (.iload 6, 2) := by decide +kernel
theorem dX1_init_6 : decode cX1_init 6 = .ok (.invokespecial 3, 3) := by decide +kernel
theorem dX1_init_9 : decode cX1_init 9 = .ok (.aload_n 0, 1) := by decide +kernel
theorem dX1_init_10 : decode cX1_init 10 = .ok (.iload_n 2, 1) := by decide +kernel
theorem dX1_init_11 : decode cX1_init 11 = .ok (.putfield 9, 3) := by decide +kernel
theorem dX1_init_14 : decode cX1_init 14 = .ok (.aload_n 0, 1) := by decide +kernel
theorem dX1_init_15 : decode cX1_init 15 = .ok (.iload_n 3, 1) := by decide +kernel
theorem dX1_init_16 : decode cX1_init 16 = .ok (.putfield 15, 3) := by decide +kernel
theorem dX1_init_19 : decode cX1_init 19 = .ok (.aload_n 0, 1) := by decide +kernel
theorem dX1_init_20 : decode cX1_init 20 = .ok (.iload 5, 2) := by decide +kernel
theorem dX1_init_22 : decode cX1_init 22 = .ok (.putfield 18, 3) := by decide +kernel
theorem dX1_init_25 : decode cX1_init 25 = .ok (.aload_n 0, 1) := by decide +kernel
theorem dX1_init_26 : decode cX1_init 26 = .ok (.iload 7, 2) := by decide +kernel
theorem dX1_init_28 : decode cX1_init 28 = .ok (.putfield 22, 3) := by decide +kernel
theorem dX1_init_31 : decode cX1_init 31 = .ok (.aload_n 0, 1) := by decide +kernel
theorem dX1_init_32 : decode cX1_init 32 = .ok (.iload_n 3, 1) := by decide +kernel
theorem dX1_init_33 : decode cX1_init 33 = .ok (.ifCond .lt 9, 3) := by decide +kernel
theorem dX1_init_36 : decode cX1_init 36 = .ok (.ldc2_w 25, 3) := by decide +kernel
theorem dX1_init_39 : decode cX1_init 39 = .ok (.goto 4, 3) := by decide +kernel
theorem dX1_init_42 : decode cX1_init 42 = .ok (.lconst 0, 1) := by decide +kernel
theorem dX1_init_43 : decode cX1_init 43 = .ok (.putfield 27, 3) := by decide +kernel
theorem dX1_init_46 : decode cX1_init 46 = .ok (.aload_n 0, 1) := by decide +kernel
theorem dX1_init_47 : decode cX1_init 47 = .ok (.aload_n 0, 1) := by decide +kernel
theorem dX1_init_48 : decode cX1_init 48 = .ok (.getfield 27, 3) := by decide +kernel
theorem dX1_init_51 : decode cX1_init 51 = .ok (.putfield 31, 3) := by decide +kernel
theorem dX1_init_54 : decode cX1_init 54 = .ok (.return_, 1) := by decide +kernel
theorem dX3_init_0 : decode cX3_init 0 = .ok (.aload_n 0, 1) := by decide +kernel
theorem dX3_init_1 : decode cX3_init 1 = .ok (.invokespecial 1, 3) := by decide +kernel
theorem dX3_init_4 : decode cX3_init 4 = .ok (.aload_n 0, 1) := by decide +kernel
theorem dX3_init_5 : decode cX3_init 5 = .ok (.aload_n 1, 1) := by decide +kernel
theorem dX3_init_6 : decode cX3_init 6 = .ok (.putfield 7, 3) := by decide +kernel
theorem dX3_init_9 : decode cX3_init 9 = .ok (.aload_n 0, 1) := by decide +kernel
theorem dX3_init_10 : decode cX3_init 10 = .ok (.iload_n 2, 1) := by decide +kernel
theorem dX3_init_11 : decode cX3_init 11 = .ok (.putfield 13, 3) := by decide +kernel
theorem dX3_init_14 : decode cX3_init 14 = .ok (.aload_n 0, 1) := by decide +kernel
theorem dX3_init_15 : decode cX3_init 15 = .ok (.iload_n 3, 1) := by decide +kernel
theorem dX3_init_16 : decode cX3_init 16 = .ok (.putfield 17, 3) := by decide +kernel
theorem dX3_init_19 : decode cX3_init 19 = .ok (.return_, 1) := by decide +kernel
theorem dX4_init_0 : decode cX4_init 0 = .ok (.aload_n 0, 1) := by decide +kernel
theorem dX4_init_1 : decode cX4_init 1 = .ok (.aload_n 1, 1) := by decide +kernel
theorem dX4_init_2 : decode cX4_init 2 = .ok (.iload 4, 2) := by decide +kernel
theorem dX4_init_4 : decode cX4_init 4 = .ok (.iconst 1, 1) := by decide +kernel
theorem dX4_init_5 : decode cX4_init 5 = .ok (.invokestatic 3, 3) := by decide +kernel
theorem dX4_init_8 : decode cX4_init 8 = .ok (.iload 4, 2) := by decide +kernel
theorem dX4_init_10 : decode cX4_init 10 = .ok (.iconst 4, 1) := by decide +kernel
theorem dX4_init_11 : decode cX4_init 11 = .ok (.invokestatic 3, 3) := by decide +kernel
theorem dX4_init_14 : decode cX4_init 14 = .ok (.invokespecial 7, 3) := by decide +kernel
theorem dX4_init_17 : decode cX4_init 17 = .ok (.aload_n 0, 1) := by decide +kernel
theorem dX4_init_18 : decode cX4_init 18 = .ok (.aload_n 2, 1) := by decide +kernel
theorem dX4_init_19 : decode cX4_init 19 = .ok (.putfield 13, 3) := by decide +kernel
theorem dX4_init_22 : decode cX4_init 22 = .ok (.aload_n 0, 1) := by decide +kernel
theorem dX4_init_23 : decode cX4_init 23 = .ok (.iload_n 3, 1) := by decide +kernel
theorem dX4_init_24 : decode cX4_init 24 = .ok (.putfield 19, 3) := by decide +kernel
theorem dX4_init_27 : decode cX4_init 27 = .ok (.aload_n 0, 1) := by decide +kernel
theorem dX4_init_28 : decode cX4_init 28 = .ok (.iload 4, 2) := by decide +kernel
theorem dX4_init_30 : decode cX4_init 30 = .ok (.iconst 2, 1) := by decide +kernel
theorem dX4_init_31 : decode cX4_init 31 = .ok (.invokestatic 3, 3) := by decide +kernel
theorem dX4_init_34 : decode cX4_init 34 = .ok (.putfield 23, 3) := by decide +kernel
theorem dX4_init_37 : decode cX4_init 37 = .ok (.aload_n 0, 1) := by decide +kernel
theorem dX4_init_38 : decode cX4_init 38 = .ok (.iload 5, 2) := by decide +kernel
theorem dX4_init_40 : decode cX4_init 40 = .ok (.putfield 27, 3) := by decide +kernel
theorem dX4_init_43 : decode cX4_init 43 = .ok (.aload_n 0, 1) := by decide +kernel
theorem dX4_init_44 : decode cX4_init 44 = .ok (.iload 6, 2) := by decide +kernel
theorem dX4_init_46 : decode cX4_init 46 = .ok (.putfield 30, 3) := by decide +kernel
theorem dX4_init_49 : decode cX4_init 49 = .ok (.return_, 1) := by decide +kernel
theorem dX5_init_0 : decode cX5_init 0 = .ok (.aload_n 0, 1) := by decide +kernel
theorem dX5_init_1 : decode cX5_init 1 = .ok (.invokespecial 3, 3) := by decide +kernel
theorem dX5_init_4 : decode cX5_init 4 = .ok (.aload_n 0, 1) := by decide +kernel
theorem dX5_init_5 : decode cX5_init 5 = .ok (.iload_n 1, 1) := by decide +kernel
theorem dX5_init_6 : decode cX5_init 6 = .ok (.putfield 9, 3) := by decide +kernel
theorem dX5_init_9 : decode cX5_init 9 = .ok (.aload_n 0, 1) := by decide +kernel
theorem dX5_init_10 : decode cX5_init 10 = .ok (.iload_n 2, 1) := by decide +kernel
theorem dX5_init_11 : decode cX5_init 11 = .ok (.putfield 15, 3) := by decide +kernel
theorem dX5_init_14 : decode cX5_init 14 = .ok (.aload_n 0, 1) := by decide +kernel
theorem dX5_init_15 : decode cX5_init 15 = .ok (.iload_n 2, 1) := by decide +kernel
theorem dX5_init_16 : decode cX5_init 16 = .ok (.ifCond .le 7, 3) := by decide +kernel
theorem dX5_init_19 : decode cX5_init 19 = .ok (.iload_n 3, 1) := by decide +kernel
theorem dX5_init_20 : decode cX5_init 20 = .ok (.goto 4, 3) := by decide +kernel
theorem dX5_init_23 : decode cX5_init 23 = .ok (.iconst (-1), 1) := by decide +kernel
theorem dX5_init_24 : decode cX5_init 24 = .ok (.putfield 18, 3) := by decide +kernel
theorem dX5_init_27 : decode cX5_init 27 = .ok (.aload_n 0, 1) := by decide +kernel
theorem dX5_init_28 : decode cX5_init 28 = .ok (.iload_n 2, 1) := by decide +kernel
theorem dX5_init_29 : decode cX5_init 29 = .ok (.iconst 1, 1) := by decide +kernel
theorem dX5_init_30 : decode cX5_init 30 = .ok (.if_icmp .le 8, 3) := by decide +kernel
theorem dX5_init_33 : decode cX5_init 33 = .ok (.iload 4, 2) := by decide +kernel
theorem dX5_init_35 : decode cX5_init 35 = .ok (.goto 4, 3) := by decide +kernel
theorem dX5_init_38 : decode cX5_init 38 = .ok (.iconst (-1), 1) := by decide +kernel
theorem dX5_init_39 : decode cX5_init 39 = .ok (.putfield 21, 3) := by decide +kernel
theorem dX5_init_42 : decode cX5_init 42 = .ok (.return_, 1) := by decide +kernel
theorem dX5_isOutside_0 : decode cX5_isOutside 0 = .ok (.aload_n 0, 1) := by decide +kernel
theorem dX5_isOutside_1 : decode cX5_isOutside 1 = .ok (.getfield 9, 3) := by decide +kernel
theorem dX5_isOutside_4 : decode cX5_isOutside 4 = .ok (.invokestatic 24, 3) := by decide +kernel
theorem dX5_isOutside_7 : decode cX5_isOutside 7 = .ok (.ifCond .ne 36, 3) := by decide +kernel
theorem dX5_isOutside_10 : decode cX5_isOutside 10 = .ok (.aload_n 0, 1) := by decide +kernel
theorem dX5_isOutside_11 : decode cX5_isOutside 11 = .ok (.getfield 15, 3) := by decide +kernel
theorem dX5_isOutside_14 : decode cX5_isOutside 14 = .ok (.ifCond .lt 29, 3) := by decide +kernel
theorem dX5_isOutside_17 : decode cX5_isOutside 17 = .ok (.aload_n 0, 1) := by decide +kernel
theorem dX5_isOutside_18 : decode cX5_isOutside 18 = .ok (.getfield 15, 3) := by decide +kernel
theorem dX5_isOutside_21 : decode cX5_isOutside 21 = .ok (.iconst 2, 1) := by decide +kernel
theorem dX5_isOutside_22 : decode cX5_isOutside 22 = .ok (.if_icmp .gt 21, 3) := by decide +kernel
theorem dX5_isOutside_25 : decode cX5_isOutside 25 = .ok (.aload_n 0, 1) := by decide +kernel
theorem dX5_isOutside_26 : decode cX5_isOutside 26 = .ok (.getfield 18, 3) := by decide +kernel
theorem dX5_isOutside_29 : decode cX5_isOutside 29 = .ok (.bipush (-2), 2) := by decide +kernel
theorem dX5_isOutside_31 : decode cX5_isOutside 31 = .ok (.if_icmp .lt 12, 3) := by decide +kernel
theorem dX5_isOutside_34 : decode cX5_isOutside 34 = .ok (.aload_n 0, 1) := by decide +kernel
theorem dX5_isOutside_35 : decode cX5_isOutside 35 = .ok (.getfield 21, 3) := by decide +kernel
theorem dX5_isOutside_38 : decode cX5_isOutside 38 = .ok (.bipush (-2), 2) := by decide +kernel
theorem dX5_isOutside_40 : decode cX5_isOutside 40 = .ok (.if_icmp .ge 7, 3) := by decide +kernel
theorem dX5_isOutside_43 : decode cX5_isOutside 43 = .ok (.iconst 1, 1) := by decide +kernel
theorem dX5_isOutside_44 : decode cX5_isOutside 44 = .ok (.goto 4, 3) := by decide +kernel
theorem dX5_isOutside_47 : decode cX5_isOutside 47 = .ok (.iconst 0, 1) := by decide +kernel
theorem dX5_isOutside_48 : decode cX5_isOutside 48 = .ok (.ireturn, 1) := by decide +kernel
theorem dX5_startsWithClass_0 : decode cX5_startsWithClass 0 = .ok (.aload_n 0, 1) := by decide +kernel
theorem dX5_startsWithClass_1 : decode cX5_startsWithClass 1 = .ok (.getfield 15, 3) := by decide +kernel
theorem dX5_startsWithClass_4 : decode cX5_startsWithClass 4 = .ok (.ifCond .le 14, 3) := by decide +kernel
theorem dX5_startsWithClass_7 : decode cX5_startsWithClass 7 = .ok (.aload_n 0, 1) := by decide +kernel
theorem dX5_startsWithClass_8 : decode cX5_startsWithClass 8 = .ok (.getfield 18, 3) := by decide +kernel
theorem dX5_startsWithClass_11 : decode cX5_startsWithClass 11 = .ok (.ifCond .lt 7, 3) := by decide +kernel
theorem dX5_startsWithClass_14 : decode cX5_startsWithClass 14 = .ok (.iconst 1, 1) := by decide +kernel
theorem dX5_startsWithClass_15 : decode cX5_startsWithClass 15 = .ok (.goto 4, 3) := by decide +kernel
theorem dX5_startsWithClass_18 : decode cX5_startsWithClass 18 = .ok (.iconst 0, 1) := by decide +kernel
theorem dX5_startsWithClass_19 : decode cX5_startsWithClass 19 = .ok (.ireturn, 1) := by decide +kernel
theorem dX5_startsWithInt_0 : decode cX5_startsWithInt 0 = .ok (.aload_n 0, 1) := by decide +kernel
theorem dX5_startsWithInt_1 : decode cX5_startsWithInt 1 = .ok (.getfield 15, 3) := by decide +kernel
theorem dX5_startsWithInt_4 : decode cX5_startsWithInt 4 = .ok (.ifCond .le 15, 3) := by decide +kernel
theorem dX5_startsWithInt_7 : decode cX5_startsWithInt 7 = .ok (.aload_n 0, 1) := by decide +kernel
theorem dX5_startsWithInt_8 : decode cX5_startsWithInt 8 = .ok (.getfield 18, 3) := by decide +kernel
theorem dX5_startsWithInt_11 : decode cX5_startsWithInt 11 = .ok (.iconst (-1), 1) := by decide +kernel
theorem dX5_startsWithInt_12 : decode cX5_startsWithInt 12 = .ok (.if_icmp .ne 7, 3) := by decide +kernel
theorem dX5_startsWithInt_15 : decode cX5_startsWithInt 15 = .ok (.iconst 1, 1) := by decide +kernel
theorem dX5_startsWithInt_16 : decode cX5_startsWithInt 16 = .ok (.goto 4, 3) := by decide +kernel
theorem dX5_startsWithInt_19 : decode cX5_startsWithInt 19 = .ok (.iconst 0, 1) := by decide +kernel
theorem dX5_startsWithInt_20 : decode cX5_startsWithInt 20 = .ok (.ireturn, 1) := by decide +kernel
theorem dX6_init_0 : decode cX6_init 0 = .ok (.aload_n 0, 1) := by decide +kernel
theorem dX6_init_1 : decode cX6_init 1 = .ok (.invokespecial 1, 3) := by decide +kernel
theorem dX6_init_4 : decode cX6_init 4 = .ok (.aload_n 0, 1) := by decide +kernel
theorem dX6_init_5 : decode cX6_init 5 = .ok (.iconst 0, 1) := by decide +kernel
theorem dX6_init_6 : decode cX6_init 6 = .ok (.putfield 7, 3) := by decide +kernel
theorem dX6_init_9 : decode cX6_init 9 = .ok (.aload_n 0, 1) := by decide +kernel
theorem dX6_init_10 : decode cX6_init 10 = .ok (.aload_n 1, 1) := by decide +kernel
theorem dX6_init_11 : decode cX6_init 11 = .ok (.putfield 13, 3) := by decide +kernel
theorem dX6_init_14 : decode cX6_init 14 = .ok (.aload_n 0, 1) := by decide +kernel
theorem dX6_init_15 : decode cX6_init 15 = .ok (.iload_n 3, 1) := by decide +kernel
theorem dX6_init_16 : decode cX6_init 16 = .ok (.putfield 17, 3) := by decide +kernel
theorem dX6_init_19 : decode cX6_init 19 = .ok (.aload_n 0, 1) := by decide +kernel
theorem dX6_init_20 : decode cX6_init 20 = .ok (.aload 4, 2) := by decide +kernel
theorem dX6_init_22 : decode cX6_init 22 = .ok (.putfield 20, 3) := by decide +kernel
theorem dX6_init_25 : decode cX6_init 25 = .ok (.aload_n 0, 1) := by decide +kernel
theorem dX6_init_26 : decode cX6_init 26 = .ok (.aload_n 1, 1) := by decide +kernel
theorem dX6_init_27 : decode cX6_init 27 = .ok (.getfield 24, 3) := by decide +kernel
theorem dX6_init_30 : decode cX6_init 30 = .ok (.aload_n 2, 1) := by decide +kernel
theorem dX6_init_31 : decode cX6_init 31 = .ok (.ifnonnull 7, 3) := by decide +kernel
theorem dX6_init_34 : decode cX6_init 34 = .ok (.iconst 0, 1) := by decide +kernel
theorem dX6_init_35 : decode cX6_init 35 = .ok (.goto 7, 3) := by decide +kernel
theorem dX6_init_42 : decode cX6_init 42 = .ok (.ior, 1) := by decide +kernel
theorem dX6_init_43 : decode cX6_init 43 = .ok (.putfield 29, 3) := by decide +kernel
theorem dX6_init_46 : decode cX6_init 46 = .ok (.return_, 1) := by decide +kernel
theorem dX7_init_0 : decode cX7_init 0 = .ok (.aload_n 0, 1) := by decide +kernel
theorem dX7_init_1 : decode cX7_init 1 = .ok (.invokespecial 3, 3) := by decide +kernel
theorem dX7_init_4 : decode cX7_init 4 = .ok (.aload_n 0, 1) := by decide +kernel
theorem dX7_init_5 : decode cX7_init 5 = .ok (.iconst 0, 1) := by decide +kernel
theorem dX7_init_6 : decode cX7_init 6 = .ok (.putfield 9, 3) := by decide +kernel
theorem dX7_init_9 : decode cX7_init 9 = .ok (.aload_n 0, 1) := by decide +kernel
theorem dX7_init_10 : decode cX7_init 10 = .ok (.lconst 0, 1) := by decide +kernel
theorem dX7_init_11 : decode cX7_init 11 = .ok (.putfield 15, 3) := by decide +kernel
theorem dX7_init_14 : decode cX7_init 14 = .ok (.return_, 1) := by decide +kernel
theorem dX7_become_0 : decode cX7_become 0 = .ok (.aload_n 0, 1) := by decide +kernel
theorem dX7_become_1 : decode cX7_become 1 = .ok (.iload_n 1, 1) := by decide +kernel
theorem dX7_become_2 : decode cX7_become 2 = .ok (.putfield 9, 3) := by decide +kernel
theorem dX7_become_5 : decode cX7_become 5 = .ok (.aload_n 0, 1) := by decide +kernel
theorem dX7_become_6 : decode cX7_become 6 = .ok (.iload_n 1, 1) := by decide +kernel
theorem dX7_become_7 : decode cX7_become 7 = .ok (.ifCond .ne 7, 3) := by decide +kernel
theorem dX7_become_10 : decode cX7_become 10 = .ok (.lconst 0, 1) := by decide +kernel
theorem dX7_become_11 : decode cX7_become 11 = .ok (.goto 4, 3) := by decide +kernel
theorem dX7_become_14 : decode cX7_become 14 = .ok (.lload_n 2, 1) := by decide +kernel
theorem dX7_become_15 : decode cX7_become 15 = .ok (.putfield 15, 3) := by decide +kernel
theorem dX7_become_18 : decode cX7_become 18 = .ok (.return_, 1) := by decide +kernel
theorem dX8_init_0 : decode cX8_init 0 = .ok (.aload_n 0, 1) := by decide +kernel
theorem dX8_init_1 : decode cX8_init 1 = .ok (.invokespecial 1, 3) := by decide +kernel
theorem dX8_init_4 : decode cX8_init 4 = .ok (.aload_n 0, 1) := by decide +kernel
theorem dX8_init_5 : decode cX8_init 5 = .ok (.bipush 16, 2) := by decide +kernel
theorem dX8_init_7 : decode cX8_init 7 = .ok (.anewarray 9, 3) := by decide +kernel
theorem dX8_init_10 : decode cX8_init 10 = .ok (.putfield 11, 3) := by decide +kernel
theorem dX8_init_13 : decode cX8_init 13 = .ok (.aload_n 0, 1) := by decide +kernel
theorem dX8_init_14 : decode cX8_init 14 = .ok (.iconst 1, 1) := by decide +kernel
theorem dX8_init_15 : decode cX8_init 15 = .ok (.putfield 15, 3) := by decide +kernel
theorem dX8_init_18 : decode cX8_init 18 = .ok (.aload_n 0, 1) := by decide +kernel
theorem dX8_init_19 : decode cX8_init 19 = .ok (.bipush 40, 2) := by decide +kernel
theorem dX8_init_21 : decode cX8_init 21 = .ok (.anewarray 19, 3) := by decide +kernel
theorem dX8_init_24 : decode cX8_init 24 = .ok (.putfield 21, 3) := by decide +kernel
theorem dX8_init_27 : decode cX8_init 27 = .ok (.aload_n 0, 1) := by decide +kernel
theorem dX8_init_28 : decode cX8_init 28 = .ok (.iconst 0, 1) := by decide +kernel
theorem dX8_init_29 : decode cX8_init 29 = .ok (.putfield 25, 3) := by decide +kernel
theorem dX8_init_32 : decode cX8_init 32 = .ok (.aload_n 0, 1) := by decide +kernel
theorem dX8_init_33 : decode cX8_init 33 = .ok (.iconst 0, 1) := by decide +kernel
theorem dX8_init_34 : decode cX8_init 34 = .ok (.putfield 28, 3) := by decide +kernel
theorem dX8_init_37 : decode cX8_init 37 = .ok (.aload_n 0, 1) := by decide +kernel
theorem dX8_init_38 : decode cX8_init 38 = .ok (.bipush 60, 2) := by decide +kernel
theorem dX8_init_40 : decode cX8_init 40 = .ok (.anewarray 31, 3) := by decide +kernel
theorem dX8_init_43 : decode cX8_init 43 = .ok (.putfield 33, 3) := by decide +kernel
theorem dX8_init_46 : decode cX8_init 46 = .ok (.aload_n 0, 1) := by decide +kernel
theorem dX8_init_47 : decode cX8_init 47 = .ok (.iconst 0, 1) := by decide +kernel
theorem dX8_init_48 : decode cX8_init 48 = .ok (.putfield 37, 3) := by decide +kernel
theorem dX8_init_51 : decode cX8_init 51 = .ok (.aload_n 0, 1) := by decide +kernel
theorem dX8_init_52 : decode cX8_init 52 = .ok (.bipush 124, 2) := by decide +kernel
theorem dX8_init_54 : decode cX8_init 54 = .ok (.anewarray 40, 3) := by decide +kernel
theorem dX8_init_57 : decode cX8_init 57 = .ok (.putfield 42, 3) := by decide +kernel
theorem dX8_init_60 : decode cX8_init 60 = .ok (.aload_n 0, 1) := by decide +kernel
theorem dX8_init_61 : decode cX8_init 61 = .ok (.iconst 0, 1) := by decide +kernel
theorem dX8_init_62 : decode cX8_init 62 = .ok (.putfield 46, 3) := by decide +kernel
theorem dX8_init_65 : decode cX8_init 65 = .ok (.aload_n 0, 1) := by decide +kernel
theorem dX8_init_66 : decode cX8_init 66 = .ok (.iconst 3, 1) := by decide +kernel
theorem dX8_init_67 : decode cX8_init 67 = .ok (.anewarray 49, 3) := by decide +kernel
theorem dX8_init_70 : decode cX8_init 70 = .ok (.putfield 51, 3) := by decide +kernel
theorem dX8_init_73 : decode cX8_init 73 = .ok (.aload_n 0, 1) := by decide +kernel
theorem dX8_init_74 : decode cX8_init 74 = .ok (.iconst 0, 1) := by decide +kernel
theorem dX8_init_75 : decode cX8_init 75 = .ok (.putfield 55, 3) := by decide +kernel
theorem dX8_init_78 : decode cX8_init 78 = .ok (.aload_n 0, 1) := by decide +kernel
theorem dX8_init_79 : decode cX8_init 79 = .ok (.iconst 0, 1) := by decide +kernel
theorem dX8_init_80 : decode cX8_init 80 = .ok (.putfield 58, 3) := by decide +kernel
theorem dX8_init_83 : decode cX8_init 83 = .ok (.aload_n 0, 1) := by decide +kernel
theorem dX8_init_84 : decode cX8_init 84 = .ok (.new 49, 3) := by decide +kernel
theorem dX8_init_87 : decode cX8_init 87 = .ok (.dup, 1) := by decide +kernel
theorem dX8_init_88 : decode cX8_init 88 = .ok (.invokespecial 61, 3) := by decide +kernel
theorem dX8_init_91 : decode cX8_init 91 = .ok (.putfield 62, 3) := by decide +kernel
theorem dX8_init_94 : decode cX8_init 94 = .ok (.aload_n 0, 1) := by decide +kernel
theorem dX8_init_95 : decode cX8_init 95 = .ok (.iconst 0, 1) := by decide +kernel
theorem dX8_init_96 : decode cX8_init 96 = .ok (.putfield 66, 3) := by decide +kernel
theorem dX8_init_99 : decode cX8_init 99 = .ok (.aload_n 0, 1) := by decide +kernel
theorem dX8_init_100 : decode cX8_init 100 = .ok (.iconst 0, 1) := by decide +kernel
theorem dX8_init_101 : decode cX8_init 101 = .ok (.putfield 69, 3) := by decide +kernel
theorem dX8_init_104 : decode cX8_init 104 = .ok (.aload_n 0, 1) := by decide +kernel
theorem dX8_init_105 : decode cX8_init 105 = .ok (.getfield 11, 3) := by decide +kernel
theorem dX8_init_108 : decode cX8_init 108 = .ok (.iconst 0, 1) := by decide +kernel
theorem dX8_init_109 : decode cX8_init 109 = .ok (.new 9, 3) := by decide +kernel
theorem dX8_init_112 : decode cX8_init 112 = .ok (.dup, 1) := by decide +kernel
theorem dX8_init_113 : decode cX8_init 113 = .ok (.iconst 0, 1) := by decide +kernel
theorem dX8_init_114 : decode cX8_init 114 = .ok (.aconst_null, 1) := by decide +kernel
theorem dX8_init_115 : decode cX8_init 115 = .ok (.iconst 0, 1) := by decide +kernel
theorem dX8_init_116 : decode cX8_init 116 = .ok (.aconst_null, 1) := by decide +kernel
theorem dX8_init_117 : decode cX8_init 117 = .ok (.iconst 0, 1) := by decide +kernel
theorem dX8_init_118 : decode cX8_init 118 = .ok (.iconst 0, 1) := by decide +kernel
theorem dX8_init_119 : decode cX8_init 119 = .ok (.invokespecial 72, 3) := by decide +kernel
theorem dX8_init_122 : decode cX8_init 122 = .ok (.aastore, 1) := by decide +kernel
theorem dX8_init_123 : decode cX8_init 123 = .ok (.iconst 0, 1) := by decide +kernel
theorem dX8_init_124 : decode cX8_init 124 = .ok (.istore_n 1, 1) := by decide +kernel
theorem dX8_init_125 : decode cX8_init 125 = .ok (.iload_n 1, 1) := by decide +kernel
theorem dX8_init_126 : decode cX8_init 126 = .ok (.iconst 3, 1) := by decide +kernel
theorem dX8_init_127 : decode cX8_init 127 = .ok (.if_icmp .ge 22, 3) := by decide +kernel
theorem dX8_init_130 : decode cX8_init 130 = .ok (.aload_n 0, 1) := by decide +kernel
theorem dX8_init_131 : decode cX8_init 131 = .ok (.getfield 51, 3) := by decide +kernel
theorem dX8_init_134 : decode cX8_init 134 = .ok (.iload_n 1, 1) := by decide +kernel
theorem dX8_init_135 : decode cX8_init 135 = .ok (.new 49, 3) := by decide +kernel
theorem dX8_init_138 : decode cX8_init 138 = .ok (.dup, 1) := by decide +kernel
theorem dX8_init_139 : decode cX8_init 139 = .ok (.invokespecial 61, 3) := by decide +kernel
theorem dX8_init_142 : decode cX8_init 142 = .ok (.aastore, 1) := by decide +kernel
theorem dX8_init_143 : decode cX8_init 143 = .ok (.iinc 1 1, 3) := by decide +kernel
theorem dX8_init_146 : decode cX8_init 146 = .ok (.goto (-21), 3) := by decide +kernel
theorem dX8_init_149 : decode cX8_init 149 = .ok (.return_, 1) := by decide +kernel
theorem dX8_type_0 : decode cX8_type 0 = .ok (.aload_n 0, 1) := by decide +kernel
theorem dX8_type_1 : decode cX8_type 1 = .ok (.iload_n 1, 1) := by decide +kernel
theorem dX8_type_2 : decode cX8_type 2 = .ok (.invokevirtual 75, 3) := by decide +kernel
theorem dX8_type_5 : decode cX8_type 5 = .ok (.ifCond .eq 16, 3) := by decide +kernel
theorem dX8_type_8 : decode cX8_type 8 = .ok (.iload_n 3, 1) := by decide +kernel
theorem dX8_type_9 : decode cX8_type 9 = .ok (.iconst (-1), 1) := by decide +kernel
theorem dX8_type_10 : decode cX8_type 10 = .ok (.if_icmp .eq 14, 3) := by decide +kernel
theorem dX8_type_13 : decode cX8_type 13 = .ok (.aload_n 0, 1) := by decide +kernel
theorem dX8_type_14 : decode cX8_type 14 = .ok (.iload_n 3, 1) := by decide +kernel
theorem dX8_type_15 : decode cX8_type 15 = .ok (.invokevirtual 75, 3) := by decide +kernel
theorem dX8_type_18 : decode cX8_type 18 = .ok (.ifCond .ne 6, 3) := by decide +kernel
theorem dX8_type_21 : decode cX8_type 21 = .ok (.bipush (-2), 2) := by decide +kernel
theorem dX8_type_23 : decode cX8_type 23 = .ok (.ireturn, 1) := by decide +kernel
theorem dX8_type_24 : decode cX8_type 24 = .ok (.iload_n 2, 1) := by decide +kernel
theorem dX8_type_25 : decode cX8_type 25 = .ok (.ifCond .lt 8, 3) := by decide +kernel
theorem dX8_type_28 : decode cX8_type 28 = .ok (.iload_n 2, 1) := by decide +kernel
theorem dX8_type_29 : decode cX8_type 29 = .ok (.iconst 4, 1) := by decide +kernel
theorem dX8_type_30 : decode cX8_type 30 = .ok (.if_icmp .le 6, 3) := by decide +kernel
theorem dX8_type_33 : decode cX8_type 33 = .ok (.bipush (-3), 2) := by decide +kernel
theorem dX8_type_35 : decode cX8_type 35 = .ok (.ireturn, 1) := by decide +kernel
theorem dX8_type_36 : decode cX8_type 36 = .ok (.iload_n 3, 1) := by decide +kernel
theorem dX8_type_37 : decode cX8_type 37 = .ok (.iconst (-1), 1) := by decide +kernel
theorem dX8_type_38 : decode cX8_type 38 = .ok (.if_icmp .ne 7, 3) := by decide +kernel
theorem dX8_type_41 : decode cX8_type 41 = .ok (.aconst_null, 1) := by decide +kernel
theorem dX8_type_42 : decode cX8_type 42 = .ok (.goto 9, 3) := by decide +kernel
theorem dX8_type_45 : decode cX8_type 45 = .ok (.aload_n 0, 1) := by decide +kernel
theorem dX8_type_46 : decode cX8_type 46 = .ok (.getfield 11, 3) := by decide +kernel
theorem dX8_type_49 : decode cX8_type 49 = .ok (.iload_n 3, 1) := by decide +kernel
theorem dX8_type_50 : decode cX8_type 50 = .ok (.aaload, 1) := by decide +kernel
theorem dX8_type_51 : decode cX8_type 51 = .ok (.astore 6, 2) := by decide +kernel
theorem dX8_type_53 : decode cX8_type 53 = .ok (.iload_n 2, 1) := by decide +kernel
theorem dX8_type_54 : decode cX8_type 54 = .ok (.aload_n 0, 1) := by decide +kernel
theorem dX8_type_55 : decode cX8_type 55 = .ok (.getfield 11, 3) := by decide +kernel
theorem dX8_type_58 : decode cX8_type 58 = .ok (.iload_n 1, 1) := by decide +kernel
theorem dX8_type_59 : decode cX8_type 59 = .ok (.aaload, 1) := by decide +kernel
theorem dX8_type_60 : decode cX8_type 60 = .ok (.invokestatic 79, 3) := by decide +kernel
theorem dX8_type_63 : decode cX8_type 63 = .ok (.ifCond .eq 12, 3) := by decide +kernel
theorem dX8_type_66 : decode cX8_type 66 = .ok (.iload_n 2, 1) := by decide +kernel
theorem dX8_type_67 : decode cX8_type 67 = .ok (.aload 6, 2) := by decide +kernel
theorem dX8_type_69 : decode cX8_type 69 = .ok (.invokestatic 83, 3) := by decide +kernel
theorem dX8_type_72 : decode cX8_type 72 = .ok (.ifCond .ne 6, 3) := by decide +kernel
theorem dX8_type_75 : decode cX8_type 75 = .ok (.bipush (-4), 2) := by decide +kernel
theorem dX8_type_77 : decode cX8_type 77 = .ok (.ireturn, 1) := by decide +kernel
theorem dX8_type_78 : decode cX8_type 78 = .ok (.aload_n 0, 1) := by decide +kernel
theorem dX8_type_79 : decode cX8_type 79 = .ok (.getfield 15, 3) := by decide +kernel
theorem dX8_type_82 : decode cX8_type 82 = .ok (.bipush 16, 2) := by decide +kernel
theorem dX8_type_84 : decode cX8_type 84 = .ok (.if_icmp .lt 6, 3) := by decide +kernel
theorem dX8_type_90 : decode cX8_type 90 = .ok (.aload_n 0, 1) := by decide +kernel
theorem dX8_type_91 : decode cX8_type 91 = .ok (.getfield 11, 3) := by decide +kernel
theorem dX8_type_94 : decode cX8_type 94 = .ok (.aload_n 0, 1) := by decide +kernel
theorem dX8_type_95 : decode cX8_type 95 = .ok (.getfield 15, 3) := by decide +kernel
theorem dX8_type_98 : decode cX8_type 98 = .ok (.new 9, 3) := by decide +kernel
theorem dX8_type_101 : decode cX8_type 101 = .ok (.dup, 1) := by decide +kernel
theorem dX8_type_102 : decode cX8_type 102 = .ok (.aload_n 0, 1) := by decide +kernel
theorem dX8_type_103 : decode cX8_type 103 = .ok (.getfield 15, 3) := by decide +kernel
theorem dX8_type_106 : decode cX8_type 106 = .ok (.aload_n 0, 1) := by decide +kernel
theorem dX8_type_107 : decode cX8_type 107 = .ok (.getfield 11, 3) := by decide +kernel
theorem dX8_type_110 : decode cX8_type 110 = .ok (.iload_n 1, 1) := by decide +kernel
theorem dX8_type_111 : decode cX8_type 111 = .ok (.aaload, 1) := by decide +kernel
theorem dX8_type_112 : decode cX8_type 112 = .ok (.iload_n 2, 1) := by decide +kernel
theorem dX8_type_113 : decode cX8_type 113 = .ok (.aload 6, 2) := by decide +kernel
theorem dX8_type_115 : decode cX8_type 115 = .ok (.iload 4, 2) := by decide +kernel
theorem dX8_type_117 : decode cX8_type 117 = .ok (.iload 5, 2) := by decide +kernel
theorem dX8_type_119 : decode cX8_type 119 = .ok (.invokespecial 72, 3) := by decide +kernel
theorem dX8_type_122 : decode cX8_type 122 = .ok (.aastore, 1) := by decide +kernel
theorem dX8_type_123 : decode cX8_type 123 = .ok (.aload_n 0, 1) := by decide +kernel
theorem dX8_type_124 : decode cX8_type 124 = .ok (.dup, 1) := by decide +kernel
theorem dX8_type_125 : decode cX8_type 125 = .ok (.getfield 15, 3) := by decide +kernel
theorem dX8_type_128 : decode cX8_type 128 = .ok (.iconst 1, 1) := by decide +kernel
theorem dX8_type_129 : decode cX8_type 129 = .ok (.iadd, 1) := by decide +kernel
theorem dX8_type_130 : decode cX8_type 130 = .ok (.putfield 15, 3) := by decide +kernel
theorem dX8_type_133 : decode cX8_type 133 = .ok (.aload_n 0, 1) := by decide +kernel
theorem dX8_type_134 : decode cX8_type 134 = .ok (.getfield 15, 3) := by decide +kernel
theorem dX8_type_137 : decode cX8_type 137 = .ok (.iconst 1, 1) := by decide +kernel
theorem dX8_type_138 : decode cX8_type 138 = .ok (.isub, 1) := by decide +kernel
theorem dX8_type_139 : decode cX8_type 139 = .ok (.ireturn, 1) := by decide +kernel
theorem dX8_constants_0 : decode cX8_constants 0 = .ok (.aload_n 0, 1) := by decide +kernel
theorem dX8_constants_1 : decode cX8_constants 1 = .ok (.iload_n 1, 1) := by decide +kernel
theorem dX8_constants_2 : decode cX8_constants 2 = .ok (.invokevirtual 75, 3) := by decide +kernel
theorem dX8_constants_5 : decode cX8_constants 5 = .ok (.ifCond .ne 6, 3) := by decide +kernel
theorem dX8_constants_8 : decode cX8_constants 8 = .ok (.bipush (-2), 2) := by decide +kernel
theorem dX8_constants_10 : decode cX8_constants 10 = .ok (.ireturn, 1) := by decide +kernel
theorem dX8_constants_11 : decode cX8_constants 11 = .ok (.iload_n 2, 1) := by decide +kernel
theorem dX8_constants_12 : decode cX8_constants 12 = .ok (.iconst 1, 1) := by decide +kernel
theorem dX8_constants_13 : decode cX8_constants 13 = .ok (.if_icmp .lt 8, 3) := by decide +kernel
theorem dX8_constants_16 : decode cX8_constants 16 = .ok (.iload_n 2, 1) := by decide +kernel
theorem dX8_constants_17 : decode cX8_constants 17 = .ok (.iconst 4, 1) := by decide +kernel
theorem dX8_constants_18 : decode cX8_constants 18 = .ok (.if_icmp .le 6, 3) := by decide +kernel
theorem dX8_constants_21 : decode cX8_constants 21 = .ok (.bipush (-3), 2) := by decide +kernel
theorem dX8_constants_23 : decode cX8_constants 23 = .ok (.ireturn, 1) := by decide +kernel
theorem dX8_constants_24 : decode cX8_constants 24 = .ok (.aload_n 0, 1) := by decide +kernel
theorem dX8_constants_25 : decode cX8_constants 25 = .ok (.getfield 11, 3) := by decide +kernel
theorem dX8_constants_28 : decode cX8_constants 28 = .ok (.iload_n 1, 1) := by decide +kernel
theorem dX8_constants_29 : decode cX8_constants 29 = .ok (.aaload, 1) := by decide +kernel
theorem dX8_constants_30 : decode cX8_constants 30 = .ok (.astore_n 3, 1) := by decide +kernel
theorem dX8_constants_31 : decode cX8_constants 31 = .ok (.aload_n 3, 1) := by decide +kernel
theorem dX8_constants_32 : decode cX8_constants 32 = .ok (.getfield 86, 3) := by decide +kernel
theorem dX8_constants_35 : decode cX8_constants 35 = .ok (.iconst 4, 1) := by decide +kernel
theorem dX8_constants_36 : decode cX8_constants 36 = .ok (.if_icmp .ne 17, 3) := by decide +kernel
theorem dX8_constants_53 : decode cX8_constants 53 = .ok (.bipush (-4), 2) := by decide +kernel
theorem dX8_constants_55 : decode cX8_constants 55 = .ok (.ireturn, 1) := by decide +kernel
theorem dX8_field_0 : decode cX8_field 0 = .ok (.aload_n 0, 1) := by decide +kernel
theorem dX8_field_1 : decode cX8_field 1 = .ok (.iload_n 1, 1) := by decide +kernel
theorem dX8_field_2 : decode cX8_field 2 = .ok (.invokevirtual 75, 3) := by decide +kernel
theorem dX8_field_5 : decode cX8_field 5 = .ok (.ifCond .eq 11, 3) := by decide +kernel
theorem dX8_field_8 : decode cX8_field 8 = .ok (.aload_n 0, 1) := by decide +kernel
theorem dX8_field_9 : decode cX8_field 9 = .ok (.iload_n 3, 1) := by decide +kernel
theorem dX8_field_10 : decode cX8_field 10 = .ok (.invokevirtual 95, 3) := by decide +kernel
theorem dX8_field_13 : decode cX8_field 13 = .ok (.ifCond .eq 6, 3) := by decide +kernel
theorem dX8_field_16 : decode cX8_field 16 = .ok (.bipush (-2), 2) := by decide +kernel
theorem dX8_field_18 : decode cX8_field 18 = .ok (.ireturn, 1) := by decide +kernel
theorem dX8_field_19 : decode cX8_field 19 = .ok (.iload_n 2, 1) := by decide +kernel
theorem dX8_field_20 : decode cX8_field 20 = .ok (.invokestatic 98, 3) := by decide +kernel
theorem dX8_field_23 : decode cX8_field 23 = .ok (.ifCond .ne 9, 3) := by decide +kernel
theorem dX8_field_26 : decode cX8_field 26 = .ok (.iload_n 3, 1) := by decide +kernel
theorem dX8_field_27 : decode cX8_field 27 = .ok (.bipush (-2), 2) := by decide +kernel
theorem dX8_field_29 : decode cX8_field 29 = .ok (.if_icmp .ge 6, 3) := by decide +kernel
theorem dX8_field_32 : decode cX8_field 32 = .ok (.bipush (-3), 2) := by decide +kernel
theorem dX8_field_34 : decode cX8_field 34 = .ok (.ireturn, 1) := by decide +kernel
theorem dX8_field_35 : decode cX8_field 35 = .ok (.aload_n 0, 1) := by decide +kernel
theorem dX8_field_36 : decode cX8_field 36 = .ok (.getfield 11, 3) := by decide +kernel
theorem dX8_field_39 : decode cX8_field 39 = .ok (.iload_n 1, 1) := by decide +kernel
theorem dX8_field_40 : decode cX8_field 40 = .ok (.aaload, 1) := by decide +kernel
theorem dX8_field_41 : decode cX8_field 41 = .ok (.astore 7, 2) := by decide +kernel
theorem dX8_field_43 : decode cX8_field 43 = .ok (.aload_n 0, 1) := by decide +kernel
theorem dX8_field_44 : decode cX8_field 44 = .ok (.getfield 46, 3) := by decide +kernel
theorem dX8_field_47 : decode cX8_field 47 = .ok (.ifCond .gt 26, 3) := by decide +kernel
theorem dX8_field_50 : decode cX8_field 50 = .ok (.aload 7, 2) := by decide +kernel
theorem dX8_field_52 : decode cX8_field 52 = .ok (.iload 4, 2) := by decide +kernel
theorem dX8_field_54 : decode cX8_field 54 = .ok (.iload 5, 2) := by decide +kernel
theorem dX8_field_56 : decode cX8_field 56 = .ok (.invokestatic 101, 3) := by decide +kernel
theorem dX8_field_59 : decode cX8_field 59 = .ok (.ifCond .eq 14, 3) := by decide +kernel
theorem dX8_field_62 : decode cX8_field 62 = .ok (.aload_n 0, 1) := by decide +kernel
theorem dX8_field_63 : decode cX8_field 63 = .ok (.aload 7, 2) := by decide +kernel
theorem dX8_field_65 : decode cX8_field 65 = .ok (.iload_n 2, 1) := by decide +kernel
theorem dX8_field_66 : decode cX8_field 66 = .ok (.invokevirtual 105, 3) := by decide +kernel
theorem dX8_field_69 : decode cX8_field 69 = .ok (.iconst (-1), 1) := by decide +kernel
theorem dX8_field_70 : decode cX8_field 70 = .ok (.if_icmp .eq 6, 3) := by decide +kernel
theorem dX8_field_73 : decode cX8_field 73 = .ok (.bipush (-4), 2) := by decide +kernel
theorem dX8_field_75 : decode cX8_field 75 = .ok (.ireturn, 1) := by decide +kernel
theorem dX8_field_76 : decode cX8_field 76 = .ok (.aload_n 0, 1) := by decide +kernel
theorem dX8_field_77 : decode cX8_field 77 = .ok (.getfield 25, 3) := by decide +kernel
theorem dX8_field_80 : decode cX8_field 80 = .ok (.bipush 40, 2) := by decide +kernel
theorem dX8_field_82 : decode cX8_field 82 = .ok (.if_icmp .lt 6, 3) := by decide +kernel
theorem dX8_field_88 : decode cX8_field 88 = .ok (.iload 4, 2) := by decide +kernel
theorem dX8_field_90 : decode cX8_field 90 = .ok (.ifCond .eq 7, 3) := by decide +kernel
theorem dX8_field_93 : decode cX8_field 93 = .ok (.iconst (-1), 1) := by decide +kernel
theorem dX8_field_94 : decode cX8_field 94 = .ok (.goto 7, 3) := by decide +kernel
theorem dX8_field_101 : decode cX8_field 101 = .ok (.istore 8, 2) := by decide +kernel
theorem dX8_field_103 : decode cX8_field 103 = .ok (.iload 4, 2) := by decide +kernel
theorem dX8_field_105 : decode cX8_field 105 = .ok (.ifCond .ne 13, 3) := by decide +kernel
theorem dX8_field_118 : decode cX8_field 118 = .ok (.aload_n 0, 1) := by decide +kernel
theorem dX8_field_119 : decode cX8_field 119 = .ok (.new 109, 3) := by decide +kernel
theorem dX8_field_122 : decode cX8_field 122 = .ok (.dup, 1) := by decide +kernel
theorem dX8_field_123 : decode cX8_field 123 = .ok (.aload 7, 2) := by decide +kernel
theorem dX8_field_125 : decode cX8_field 125 = .ok (.iload_n 2, 1) := by decide +kernel
theorem dX8_field_126 : decode cX8_field 126 = .ok (.iload_n 3, 1) := by decide +kernel
theorem dX8_field_127 : decode cX8_field 127 = .ok (.iload 4, 2) := by decide +kernel
theorem dX8_field_129 : decode cX8_field 129 = .ok (.iload 5, 2) := by decide +kernel
theorem dX8_field_131 : decode cX8_field 131 = .ok (.iload 6, 2) := by decide +kernel
theorem dX8_field_133 : decode cX8_field 133 = .ok (.iload 8, 2) := by decide +kernel
theorem dX8_field_135 : decode cX8_field 135 = .ok (.invokespecial 111, 3) := by decide +kernel
theorem dX8_field_138 : decode cX8_field 138 = .ok (.invokevirtual 114, 3) := by decide +kernel
theorem dX8_field_141 : decode cX8_field 141 = .ok (.ireturn, 1) := by decide +kernel
theorem dX8_method_0 : decode cX8_method 0 = .ok (.new 118, 3) := by decide +kernel
theorem dX8_method_3 : decode cX8_method 3 = .ok (.dup, 1) := by decide +kernel
theorem dX8_method_4 : decode cX8_method 4 = .ok (.iload_n 2, 1) := by decide +kernel
theorem dX8_method_5 : decode cX8_method 5 = .ok (.iload_n 3, 1) := by decide +kernel
theorem dX8_method_6 : decode cX8_method 6 = .ok (.iload 4, 2) := by decide +kernel
theorem dX8_method_8 : decode cX8_method 8 = .ok (.iload 5, 2) := by decide +kernel
theorem dX8_method_10 : decode cX8_method 10 = .ok (.invokespecial 120, 3) := by decide +kernel
theorem dX8_method_13 : decode cX8_method 13 = .ok (.astore 10, 2) := by decide +kernel
theorem dX8_method_15 : decode cX8_method 15 = .ok (.aload_n 0, 1) := by decide +kernel
theorem dX8_method_16 : decode cX8_method 16 = .ok (.iload_n 1, 1) := by decide +kernel
theorem dX8_method_17 : decode cX8_method 17 = .ok (.invokevirtual 75, 3) := by decide +kernel
theorem dX8_method_20 : decode cX8_method 20 = .ok (.ifCond .eq 21, 3) := by decide +kernel
theorem dX8_method_23 : decode cX8_method 23 = .ok (.aload_n 0, 1) := by decide +kernel
theorem dX8_method_24 : decode cX8_method 24 = .ok (.aload 10, 2) := by decide +kernel
theorem dX8_method_26 : decode cX8_method 26 = .ok (.invokevirtual 123, 3) := by decide +kernel
theorem dX8_method_29 : decode cX8_method 29 = .ok (.ifCond .ne 12, 3) := by decide +kernel
theorem dX8_method_32 : decode cX8_method 32 = .ok (.aload_n 0, 1) := by decide +kernel
theorem dX8_method_33 : decode cX8_method 33 = .ok (.iload 6, 2) := by decide +kernel
theorem dX8_method_35 : decode cX8_method 35 = .ok (.invokevirtual 95, 3) := by decide +kernel
theorem dX8_method_38 : decode cX8_method 38 = .ok (.ifCond .eq 6, 3) := by decide +kernel
theorem dX8_method_41 : decode cX8_method 41 = .ok (.bipush (-2), 2) := by decide +kernel
theorem dX8_method_43 : decode cX8_method 43 = .ok (.ireturn, 1) := by decide +kernel
theorem dX8_method_44 : decode cX8_method 44 = .ok (.aload 10, 2) := by decide +kernel
theorem dX8_method_46 : decode cX8_method 46 = .ok (.invokevirtual 127, 3) := by decide +kernel
theorem dX8_method_49 : decode cX8_method 49 = .ok (.ifCond .ne 28, 3) := by decide +kernel
theorem dX8_method_52 : decode cX8_method 52 = .ok (.iload 6, 2) := by decide +kernel
theorem dX8_method_54 : decode cX8_method 54 = .ok (.bipush (-3), 2) := by decide +kernel
theorem dX8_method_56 : decode cX8_method 56 = .ok (.if_icmp .lt 21, 3) := by decide +kernel
theorem dX8_method_59 : decode cX8_method 59 = .ok (.iload 7, 2) := by decide +kernel
theorem dX8_method_61 : decode cX8_method 61 = .ok (.invokestatic 131, 3) := by decide +kernel
theorem dX8_method_64 : decode cX8_method 64 = .ok (.ifCond .ne 13, 3) := by decide +kernel
theorem dX8_method_67 : decode cX8_method 67 = .ok (.iload 8, 2) := by decide +kernel
theorem dX8_method_69 : decode cX8_method 69 = .ok (.iload 9, 2) := by decide +kernel
theorem dX8_method_71 : decode cX8_method 71 = .ok (.invokestatic 134, 3) := by decide +kernel
theorem dX8_method_74 : decode cX8_method 74 = .ok (.ifCond .eq 6, 3) := by decide +kernel
theorem dX8_method_77 : decode cX8_method 77 = .ok (.bipush (-3), 2) := by decide +kernel
theorem dX8_method_79 : decode cX8_method 79 = .ok (.ireturn, 1) := by decide +kernel
theorem dX8_method_80 : decode cX8_method 80 = .ok (.new 138, 3) := by decide +kernel
theorem dX8_method_83 : decode cX8_method 83 = .ok (.dup, 1) := by decide +kernel
theorem dX8_method_84 : decode cX8_method 84 = .ok (.aload_n 0, 1) := by decide +kernel
theorem dX8_method_85 : decode cX8_method 85 = .ok (.getfield 11, 3) := by decide +kernel
theorem dX8_method_88 : decode cX8_method 88 = .ok (.iload_n 1, 1) := by decide +kernel
theorem dX8_method_89 : decode cX8_method 89 = .ok (.aaload, 1) := by decide +kernel
theorem dX8_method_90 : decode cX8_method 90 = .ok (.aload 10, 2) := by decide +kernel
theorem dX8_method_92 : decode cX8_method 92 = .ok (.iload 6, 2) := by decide +kernel
theorem dX8_method_94 : decode cX8_method 94 = .ok (.iload 7, 2) := by decide +kernel
theorem dX8_method_96 : decode cX8_method 96 = .ok (.iload 8, 2) := by decide +kernel
theorem dX8_method_98 : decode cX8_method 98 = .ok (.iload 9, 2) := by decide +kernel
theorem dX8_method_100 : decode cX8_method 100 = .ok (.invokespecial 140, 3) := by decide +kernel
theorem dX8_method_103 : decode cX8_method 103 = .ok (.astore 11, 2) := by decide +kernel
theorem dX8_method_105 : decode cX8_method 105 = .ok (.aload_n 0, 1) := by decide +kernel
theorem dX8_method_106 : decode cX8_method 106 = .ok (.getfield 46, 3) := by decide +kernel
theorem dX8_method_109 : decode cX8_method 109 = .ok (.ifCond .gt 35, 3) := by decide +kernel
theorem dX8_method_112 : decode cX8_method 112 = .ok (.aload 11, 2) := by decide +kernel
theorem dX8_method_114 : decode cX8_method 114 = .ok (.invokestatic 143, 3) := by decide +kernel
theorem dX8_method_117 : decode cX8_method 117 = .ok (.ifCond .eq 27, 3) := by decide +kernel
theorem dX8_method_120 : decode cX8_method 120 = .ok (.aload_n 0, 1) := by decide +kernel
theorem dX8_method_121 : decode cX8_method 121 = .ok (.aload 11, 2) := by decide +kernel
theorem dX8_method_123 : decode cX8_method 123 = .ok (.invokevirtual 147, 3) := by decide +kernel
theorem dX8_method_126 : decode cX8_method 126 = .ok (.ifCond .eq 18, 3) := by decide +kernel
theorem dX8_method_129 : decode cX8_method 129 = .ok (.aload_n 0, 1) := by decide +kernel
theorem dX8_method_130 : decode cX8_method 130 = .ok (.aload 11, 2) := by decide +kernel
theorem dX8_method_132 : decode cX8_method 132 = .ok (.getfield 150, 3) := by decide +kernel
theorem dX8_method_135 : decode cX8_method 135 = .ok (.aload 10, 2) := by decide +kernel
theorem dX8_method_137 : decode cX8_method 137 = .ok (.invokevirtual 154, 3) := by decide +kernel
theorem dX8_method_140 : decode cX8_method 140 = .ok (.iconst (-1), 1) := by decide +kernel
theorem dX8_method_141 : decode cX8_method 141 = .ok (.if_icmp .eq 6, 3) := by decide +kernel
theorem dX8_method_144 : decode cX8_method 144 = .ok (.bipush (-4), 2) := by decide +kernel
theorem dX8_method_146 : decode cX8_method 146 = .ok (.ireturn, 1) := by decide +kernel
theorem dX8_method_147 : decode cX8_method 147 = .ok (.aload_n 0, 1) := by decide +kernel
theorem dX8_method_148 : decode cX8_method 148 = .ok (.getfield 25, 3) := by decide +kernel
theorem dX8_method_151 : decode cX8_method 151 = .ok (.bipush 40, 2) := by decide +kernel
theorem dX8_method_153 : decode cX8_method 153 = .ok (.if_icmp .lt 6, 3) := by decide +kernel
theorem dX8_method_159 : decode cX8_method 159 = .ok (.aload_n 0, 1) := by decide +kernel
theorem dX8_method_160 : decode cX8_method 160 = .ok (.aload 11, 2) := by decide +kernel
theorem dX8_method_162 : decode cX8_method 162 = .ok (.invokevirtual 114, 3) := by decide +kernel
theorem dX8_method_165 : decode cX8_method 165 = .ok (.ireturn, 1) := by decide +kernel
theorem dX8_caller_0 : decode cX8_caller 0 = .ok (.aload_n 0, 1) := by decide +kernel
theorem dX8_caller_1 : decode cX8_caller 1 = .ok (.iload_n 1, 1) := by decide +kernel
theorem dX8_caller_2 : decode cX8_caller 2 = .ok (.invokevirtual 75, 3) := by decide +kernel
theorem dX8_caller_5 : decode cX8_caller 5 = .ok (.ifCond .ne 6, 3) := by decide +kernel
theorem dX8_caller_8 : decode cX8_caller 8 = .ok (.bipush (-2), 2) := by decide +kernel
theorem dX8_caller_10 : decode cX8_caller 10 = .ok (.ireturn, 1) := by decide +kernel
theorem dX8_caller_11 : decode cX8_caller 11 = .ok (.aload_n 0, 1) := by decide +kernel
theorem dX8_caller_12 : decode cX8_caller 12 = .ok (.getfield 58, 3) := by decide +kernel
theorem dX8_caller_15 : decode cX8_caller 15 = .ok (.istore_n 2, 1) := by decide +kernel
theorem dX8_caller_16 : decode cX8_caller 16 = .ok (.aload_n 0, 1) := by decide +kernel
theorem dX8_caller_17 : decode cX8_caller 17 = .ok (.iload_n 1, 1) := by decide +kernel
theorem dX8_caller_18 : decode cX8_caller 18 = .ok (.putfield 58, 3) := by decide +kernel
theorem dX8_caller_21 : decode cX8_caller 21 = .ok (.iload_n 2, 1) := by decide +kernel
theorem dX8_caller_22 : decode cX8_caller 22 = .ok (.ireturn, 1) := by decide +kernel
theorem dX8_findField_0 : decode cX8_findField 0 = .ok (.aload_n 0, 1) := by decide +kernel
theorem dX8_findField_1 : decode cX8_findField 1 = .ok (.iload_n 1, 1) := by decide +kernel
theorem dX8_findField_2 : decode cX8_findField 2 = .ok (.invokevirtual 75, 3) := by decide +kernel
theorem dX8_findField_5 : decode cX8_findField 5 = .ok (.ifCond .ne 6, 3) := by decide +kernel
theorem dX8_findField_8 : decode cX8_findField 8 = .ok (.bipush (-2), 2) := by decide +kernel
theorem dX8_findField_10 : decode cX8_findField 10 = .ok (.ireturn, 1) := by decide +kernel
theorem dX8_findField_11 : decode cX8_findField 11 = .ok (.iload_n 2, 1) := by decide +kernel
theorem dX8_findField_12 : decode cX8_findField 12 = .ok (.invokestatic 98, 3) := by decide +kernel
theorem dX8_findField_15 : decode cX8_findField 15 = .ok (.ifCond .eq 6, 3) := by decide +kernel
theorem dX8_findField_18 : decode cX8_findField 18 = .ok (.bipush (-3), 2) := by decide +kernel
theorem dX8_findField_20 : decode cX8_findField 20 = .ok (.ireturn, 1) := by decide +kernel
theorem dX8_findField_21 : decode cX8_findField 21 = .ok (.aload_n 0, 1) := by decide +kernel
theorem dX8_findField_22 : decode cX8_findField 22 = .ok (.iload_n 3, 1) := by decide +kernel
theorem dX8_findField_23 : decode cX8_findField 23 = .ok (.ifCond .eq 17, 3) := by decide +kernel
theorem dX8_findField_26 : decode cX8_findField 26 = .ok (.aload_n 0, 1) := by decide +kernel
theorem dX8_findField_27 : decode cX8_findField 27 = .ok (.aload_n 0, 1) := by decide +kernel
theorem dX8_findField_28 : decode cX8_findField 28 = .ok (.getfield 11, 3) := by decide +kernel
theorem dX8_findField_31 : decode cX8_findField 31 = .ok (.iload_n 1, 1) := by decide +kernel
theorem dX8_findField_32 : decode cX8_findField 32 = .ok (.aaload, 1) := by decide +kernel
theorem dX8_findField_33 : decode cX8_findField 33 = .ok (.iload_n 2, 1) := by decide +kernel
theorem dX8_findField_34 : decode cX8_findField 34 = .ok (.invokevirtual 158, 3) := by decide +kernel
theorem dX8_findField_37 : decode cX8_findField 37 = .ok (.goto 14, 3) := by decide +kernel
theorem dX8_findField_40 : decode cX8_findField 40 = .ok (.aload_n 0, 1) := by decide +kernel
theorem dX8_findField_41 : decode cX8_findField 41 = .ok (.aload_n 0, 1) := by decide +kernel
theorem dX8_findField_42 : decode cX8_findField 42 = .ok (.getfield 11, 3) := by decide +kernel
theorem dX8_findField_45 : decode cX8_findField 45 = .ok (.iload_n 1, 1) := by decide +kernel
theorem dX8_findField_46 : decode cX8_findField 46 = .ok (.aaload, 1) := by decide +kernel
theorem dX8_findField_47 : decode cX8_findField 47 = .ok (.iload_n 2, 1) := by decide +kernel
theorem dX8_findField_48 : decode cX8_findField 48 = .ok (.invokevirtual 105, 3) := by decide +kernel
theorem dX8_findField_51 : decode cX8_findField 51 = .ok (.invokevirtual 161, 3) := by decide +kernel
theorem dX8_findField_54 : decode cX8_findField 54 = .ok (.ireturn, 1) := by decide +kernel
theorem dX8_findMethod_0 : decode cX8_findMethod 0 = .ok (.new 118, 3) := by decide +kernel
theorem dX8_findMethod_3 : decode cX8_findMethod 3 = .ok (.dup, 1) := by decide +kernel
theorem dX8_findMethod_4 : decode cX8_findMethod 4 = .ok (.iload_n 2, 1) := by decide +kernel
theorem dX8_findMethod_5 : decode cX8_findMethod 5 = .ok (.iload_n 3, 1) := by decide +kernel
theorem dX8_findMethod_6 : decode cX8_findMethod 6 = .ok (.iload 4, 2) := by decide +kernel
theorem dX8_findMethod_8 : decode cX8_findMethod 8 = .ok (.iload 5, 2) := by decide +kernel
theorem dX8_findMethod_10 : decode cX8_findMethod 10 = .ok (.invokespecial 120, 3) := by decide +kernel
theorem dX8_findMethod_13 : decode cX8_findMethod 13 = .ok (.astore 7, 2) := by decide +kernel
theorem dX8_findMethod_15 : decode cX8_findMethod 15 = .ok (.aload_n 0, 1) := by decide +kernel
theorem dX8_findMethod_16 : decode cX8_findMethod 16 = .ok (.iload_n 1, 1) := by decide +kernel
theorem dX8_findMethod_17 : decode cX8_findMethod 17 = .ok (.invokevirtual 75, 3) := by decide +kernel
theorem dX8_findMethod_20 : decode cX8_findMethod 20 = .ok (.ifCond .eq 12, 3) := by decide +kernel
theorem dX8_findMethod_23 : decode cX8_findMethod 23 = .ok (.aload_n 0, 1) := by decide +kernel
theorem dX8_findMethod_24 : decode cX8_findMethod 24 = .ok (.aload 7, 2) := by decide +kernel
theorem dX8_findMethod_26 : decode cX8_findMethod 26 = .ok (.invokevirtual 123, 3) := by decide +kernel
theorem dX8_findMethod_29 : decode cX8_findMethod 29 = .ok (.ifCond .eq 6, 3) := by decide +kernel
theorem dX8_findMethod_32 : decode cX8_findMethod 32 = .ok (.bipush (-2), 2) := by decide +kernel
theorem dX8_findMethod_34 : decode cX8_findMethod 34 = .ok (.ireturn, 1) := by decide +kernel
theorem dX8_findMethod_35 : decode cX8_findMethod 35 = .ok (.aload 7, 2) := by decide +kernel
theorem dX8_findMethod_37 : decode cX8_findMethod 37 = .ok (.invokevirtual 127, 3) := by decide +kernel
theorem dX8_findMethod_40 : decode cX8_findMethod 40 = .ok (.ifCond .eq 6, 3) := by decide +kernel
theorem dX8_findMethod_43 : decode cX8_findMethod 43 = .ok (.bipush (-3), 2) := by decide +kernel
theorem dX8_findMethod_45 : decode cX8_findMethod 45 = .ok (.ireturn, 1) := by decide +kernel
theorem dX8_findMethod_46 : decode cX8_findMethod 46 = .ok (.aload_n 0, 1) := by decide +kernel
theorem dX8_findMethod_47 : decode cX8_findMethod 47 = .ok (.iload 6, 2) := by decide +kernel
theorem dX8_findMethod_49 : decode cX8_findMethod 49 = .ok (.ifCond .eq 18, 3) := by decide +kernel
theorem dX8_findMethod_52 : decode cX8_findMethod 52 = .ok (.aload_n 0, 1) := by decide +kernel
theorem dX8_findMethod_53 : decode cX8_findMethod 53 = .ok (.aload_n 0, 1) := by decide +kernel
theorem dX8_findMethod_54 : decode cX8_findMethod 54 = .ok (.getfield 11, 3) := by decide +kernel
theorem dX8_findMethod_57 : decode cX8_findMethod 57 = .ok (.iload_n 1, 1) := by decide +kernel
theorem dX8_findMethod_58 : decode cX8_findMethod 58 = .ok (.aaload, 1) := by decide +kernel
theorem dX8_findMethod_59 : decode cX8_findMethod 59 = .ok (.aload 7, 2) := by decide +kernel
theorem dX8_findMethod_61 : decode cX8_findMethod 61 = .ok (.invokevirtual 165, 3) := by decide +kernel
theorem dX8_findMethod_64 : decode cX8_findMethod 64 = .ok (.goto 15, 3) := by decide +kernel
theorem dX8_findMethod_67 : decode cX8_findMethod 67 = .ok (.aload_n 0, 1) := by decide +kernel
theorem dX8_findMethod_68 : decode cX8_findMethod 68 = .ok (.aload_n 0, 1) := by decide +kernel
theorem dX8_findMethod_69 : decode cX8_findMethod 69 = .ok (.getfield 11, 3) := by decide +kernel
theorem dX8_findMethod_72 : decode cX8_findMethod 72 = .ok (.iload_n 1, 1) := by decide +kernel
theorem dX8_findMethod_73 : decode cX8_findMethod 73 = .ok (.aaload, 1) := by decide +kernel
theorem dX8_findMethod_74 : decode cX8_findMethod 74 = .ok (.aload 7, 2) := by decide +kernel
theorem dX8_findMethod_76 : decode cX8_findMethod 76 = .ok (.invokevirtual 154, 3) := by decide +kernel
theorem dX8_findMethod_79 : decode cX8_findMethod 79 = .ok (.invokevirtual 161, 3) := by decide +kernel
theorem dX8_findMethod_82 : decode cX8_findMethod 82 = .ok (.ireturn, 1) := by decide +kernel
theorem dX8_leave_0 : decode cX8_leave 0 = .ok (.aload_n 0, 1) := by decide +kernel
theorem dX8_leave_1 : decode cX8_leave 1 = .ok (.iload_n 1, 1) := by decide +kernel
theorem dX8_leave_2 : decode cX8_leave 2 = .ok (.invokevirtual 168, 3) := by decide +kernel
theorem dX8_leave_5 : decode cX8_leave 5 = .ok (.ifCond .ne 6, 3) := by decide +kernel
theorem dX8_leave_8 : decode cX8_leave 8 = .ok (.bipush (-2), 2) := by decide +kernel
theorem dX8_leave_10 : decode cX8_leave 10 = .ok (.ireturn, 1) := by decide +kernel
theorem dX8_value_0 : decode cX8_value 0 = .ok (.iload_n 2, 1) := by decide +kernel
theorem dX8_value_1 : decode cX8_value 1 = .ok (.iconst 3, 1) := by decide +kernel
theorem dX8_value_2 : decode cX8_value 2 = .ok (.if_icmp .ne 22, 3) := by decide +kernel
theorem dX8_value_5 : decode cX8_value 5 = .ok (.lload_n 3, 1) := by decide +kernel
theorem dX8_value_6 : decode cX8_value 6 = .ok (.lconst 0, 1) := by decide +kernel
theorem dX8_value_7 : decode cX8_value 7 = .ok (.lcmp, 1) := by decide +kernel
theorem dX8_value_8 : decode cX8_value 8 = .ok (.ifCond .lt 13, 3) := by decide +kernel
theorem dX8_value_11 : decode cX8_value 11 = .ok (.lload_n 3, 1) := by decide +kernel
theorem dX8_value_12 : decode cX8_value 12 = .ok (.aload_n 0, 1) := by decide +kernel
theorem dX8_value_13 : decode cX8_value 13 = .ok (.getfield 46, 3) := by decide +kernel
theorem dX8_value_16 : decode cX8_value 16 = .ok (.i2l, 1) := by decide +kernel
theorem dX8_value_17 : decode cX8_value 17 = .ok (.lcmp, 1) := by decide +kernel
theorem dX8_value_18 : decode cX8_value 18 = .ok (.ifCond .lt 6, 3) := by decide +kernel
theorem dX8_value_21 : decode cX8_value 21 = .ok (.bipush (-2), 2) := by decide +kernel
theorem dX8_value_23 : decode cX8_value 23 = .ok (.ireturn, 1) := by decide +kernel
theorem dX8_value_24 : decode cX8_value 24 = .ok (.iload_n 1, 1) := by decide +kernel
theorem dX8_value_25 : decode cX8_value 25 = .ok (.ifCond .lt 25, 3) := by decide +kernel
theorem dX8_value_28 : decode cX8_value 28 = .ok (.iload_n 1, 1) := by decide +kernel
theorem dX8_value_29 : decode cX8_value 29 = .ok (.aload_n 0, 1) := by decide +kernel
theorem dX8_value_30 : decode cX8_value 30 = .ok (.getfield 55, 3) := by decide +kernel
theorem dX8_value_33 : decode cX8_value 33 = .ok (.if_icmp .gt 17, 3) := by decide +kernel
theorem dX8_value_36 : decode cX8_value 36 = .ok (.iload_n 1, 1) := by decide +kernel
theorem dX8_value_37 : decode cX8_value 37 = .ok (.iconst 3, 1) := by decide +kernel
theorem dX8_value_38 : decode cX8_value 38 = .ok (.if_icmp .ge 12, 3) := by decide +kernel
theorem dX8_value_41 : decode cX8_value 41 = .ok (.iload_n 2, 1) := by decide +kernel
theorem dX8_value_42 : decode cX8_value 42 = .ok (.ifCond .lt 8, 3) := by decide +kernel
theorem dX8_value_45 : decode cX8_value 45 = .ok (.iload_n 2, 1) := by decide +kernel
theorem dX8_value_46 : decode cX8_value 46 = .ok (.iconst 3, 1) := by decide +kernel
theorem dX8_value_47 : decode cX8_value 47 = .ok (.if_icmp .le 6, 3) := by decide +kernel
theorem dX8_value_50 : decode cX8_value 50 = .ok (.bipush (-3), 2) := by decide +kernel
theorem dX8_value_52 : decode cX8_value 52 = .ok (.ireturn, 1) := by decide +kernel
theorem dX8_value_53 : decode cX8_value 53 = .ok (.iload_n 2, 1) := by decide +kernel
theorem dX8_value_54 : decode cX8_value 54 = .ok (.iconst 1, 1) := by decide +kernel
theorem dX8_value_55 : decode cX8_value 55 = .ok (.if_icmp .ne 22, 3) := by decide +kernel
theorem dX8_value_58 : decode cX8_value 58 = .ok (.lload_n 3, 1) := by decide +kernel
theorem dX8_value_59 : decode cX8_value 59 = .ok (.ldc2_w 191, 3) := by decide +kernel
theorem dX8_value_62 : decode cX8_value 62 = .ok (.lcmp, 1) := by decide +kernel
theorem dX8_value_63 : decode cX8_value 63 = .ok (.ifCond .lt 11, 3) := by decide +kernel
theorem dX8_value_66 : decode cX8_value 66 = .ok (.lload_n 3, 1) := by decide +kernel
theorem dX8_value_67 : decode cX8_value 67 = .ok (.ldc2_w 193, 3) := by decide +kernel
theorem dX8_value_70 : decode cX8_value 70 = .ok (.lcmp, 1) := by decide +kernel
theorem dX8_value_71 : decode cX8_value 71 = .ok (.ifCond .le 6, 3) := by decide +kernel
theorem dX8_value_74 : decode cX8_value 74 = .ok (.bipush (-3), 2) := by decide +kernel
theorem dX8_value_76 : decode cX8_value 76 = .ok (.ireturn, 1) := by decide +kernel
theorem dX8_value_77 : decode cX8_value 77 = .ok (.aload_n 0, 1) := by decide +kernel
theorem dX8_value_78 : decode cX8_value 78 = .ok (.getfield 51, 3) := by decide +kernel
theorem dX8_value_81 : decode cX8_value 81 = .ok (.iload_n 1, 1) := by decide +kernel
theorem dX8_value_82 : decode cX8_value 82 = .ok (.aaload, 1) := by decide +kernel
theorem dX8_value_83 : decode cX8_value 83 = .ok (.iload_n 2, 1) := by decide +kernel
theorem dX8_value_84 : decode cX8_value 84 = .ok (.lload_n 3, 1) := by decide +kernel
theorem dX8_value_85 : decode cX8_value 85 = .ok (.invokevirtual 195, 3) := by decide +kernel
theorem dX8_value_88 : decode cX8_value 88 = .ok (.aload_n 0, 1) := by decide +kernel
theorem dX8_value_89 : decode cX8_value 89 = .ok (.iload_n 1, 1) := by decide +kernel
theorem dX8_value_90 : decode cX8_value 90 = .ok (.iconst 1, 1) := by decide +kernel
theorem dX8_value_91 : decode cX8_value 91 = .ok (.iadd, 1) := by decide +kernel
theorem dX8_value_92 : decode cX8_value 92 = .ok (.putfield 55, 3) := by decide +kernel
theorem dX8_value_95 : decode cX8_value 95 = .ok (.aload_n 0, 1) := by decide +kernel
theorem dX8_value_96 : decode cX8_value 96 = .ok (.getfield 55, 3) := by decide +kernel
theorem dX8_value_99 : decode cX8_value 99 = .ok (.ireturn, 1) := by decide +kernel
theorem dX8_get_0 : decode cX8_get 0 = .ok (.aload_n 0, 1) := by decide +kernel
theorem dX8_get_1 : decode cX8_get 1 = .ok (.iload_n 1, 1) := by decide +kernel
theorem dX8_get_2 : decode cX8_get 2 = .ok (.invokevirtual 168, 3) := by decide +kernel
theorem dX8_get_5 : decode cX8_get 5 = .ok (.ifCond .eq 11, 3) := by decide +kernel
theorem dX8_get_16 : decode cX8_get 16 = .ok (.bipush (-2), 2) := by decide +kernel
theorem dX8_get_18 : decode cX8_get 18 = .ok (.ireturn, 1) := by decide +kernel
theorem dX8_set_0 : decode cX8_set 0 = .ok (.aload_n 0, 1) := by decide +kernel
theorem dX8_set_1 : decode cX8_set 1 = .ok (.iload_n 1, 1) := by decide +kernel
theorem dX8_set_2 : decode cX8_set 2 = .ok (.invokevirtual 168, 3) := by decide +kernel
theorem dX8_set_5 : decode cX8_set 5 = .ok (.ifCond .eq 11, 3) := by decide +kernel
theorem dX8_set_16 : decode cX8_set 16 = .ok (.bipush (-2), 2) := by decide +kernel
theorem dX8_set_18 : decode cX8_set 18 = .ok (.ireturn, 1) := by decide +kernel
theorem dX8_call_0 : decode cX8_call 0 = .ok (.aload_n 0, 1) := by decide +kernel
theorem dX8_call_1 : decode cX8_call 1 = .ok (.iload_n 1, 1) := by decide +kernel
theorem dX8_call_2 : decode cX8_call 2 = .ok (.invokevirtual 168, 3) := by decide +kernel
theorem dX8_call_5 : decode cX8_call 5 = .ok (.ifCond .eq 11, 3) := by decide +kernel
theorem dX8_call_16 : decode cX8_call 16 = .ok (.bipush (-2), 2) := by decide +kernel
theorem dX8_call_18 : decode cX8_call 18 = .ok (.ireturn, 1) := by decide +kernel
theorem dX8_make_0 : decode cX8_make 0 = .ok (.aload_n 0, 1) := by decide +kernel
theorem dX8_make_1 : decode cX8_make 1 = .ok (.iload_n 1, 1) := by decide +kernel
theorem dX8_make_2 : decode cX8_make 2 = .ok (.invokevirtual 75, 3) := by decide +kernel
theorem dX8_make_5 : decode cX8_make 5 = .ok (.ifCond .ne 6, 3) := by decide +kernel
theorem dX8_make_8 : decode cX8_make 8 = .ok (.bipush (-2), 2) := by decide +kernel
theorem dX8_make_10 : decode cX8_make 10 = .ok (.ireturn, 1) := by decide +kernel
theorem dX8_make_11 : decode cX8_make 11 = .ok (.aload_n 0, 1) := by decide +kernel
theorem dX8_make_12 : decode cX8_make 12 = .ok (.getfield 46, 3) := by decide +kernel
theorem dX8_make_15 : decode cX8_make 15 = .ok (.bipush 60, 2) := by decide +kernel
theorem dX8_make_17 : decode cX8_make 17 = .ok (.if_icmp .lt 6, 3) := by decide +kernel
theorem dX8_make_23 : decode cX8_make 23 = .ok (.aload_n 0, 1) := by decide +kernel
theorem dX8_make_24 : decode cX8_make 24 = .ok (.aload_n 0, 1) := by decide +kernel
theorem dX8_make_25 : decode cX8_make 25 = .ok (.getfield 11, 3) := by decide +kernel
theorem dX8_make_28 : decode cX8_make 28 = .ok (.iload_n 1, 1) := by decide +kernel
theorem dX8_make_29 : decode cX8_make 29 = .ok (.aaload, 1) := by decide +kernel
theorem dX8_make_30 : decode cX8_make 30 = .ok (.invokevirtual 240, 3) := by decide +kernel
theorem dX8_make_33 : decode cX8_make 33 = .ok (.istore_n 2, 1) := by decide +kernel
theorem dX8_make_34 : decode cX8_make 34 = .ok (.iload_n 2, 1) := by decide +kernel
theorem dX8_make_35 : decode cX8_make 35 = .ok (.ifCond .eq 9, 3) := by decide +kernel
theorem dX8_make_44 : decode cX8_make 44 = .ok (.aload_n 0, 1) := by decide +kernel
theorem dX8_make_45 : decode cX8_make 45 = .ok (.aload_n 0, 1) := by decide +kernel
theorem dX8_make_46 : decode cX8_make 46 = .ok (.getfield 11, 3) := by decide +kernel
theorem dX8_make_49 : decode cX8_make 49 = .ok (.iload_n 1, 1) := by decide +kernel
theorem dX8_make_50 : decode cX8_make 50 = .ok (.aaload, 1) := by decide +kernel
theorem dX8_make_51 : decode cX8_make 51 = .ok (.aconst_null, 1) := by decide +kernel
theorem dX8_make_52 : decode cX8_make 52 = .ok (.iconst (-1), 1) := by decide +kernel
theorem dX8_make_53 : decode cX8_make 53 = .ok (.invokevirtual 244, 3) := by decide +kernel
theorem dX8_make_56 : decode cX8_make 56 = .ok (.istore_n 3, 1) := by decide +kernel
theorem dX8_make_57 : decode cX8_make 57 = .ok (.aload_n 0, 1) := by decide +kernel
theorem dX8_make_58 : decode cX8_make 58 = .ok (.getfield 11, 3) := by decide +kernel
theorem dX8_make_61 : decode cX8_make 61 = .ok (.iload_n 1, 1) := by decide +kernel
theorem dX8_make_62 : decode cX8_make 62 = .ok (.aaload, 1) := by decide +kernel
theorem dX8_make_63 : decode cX8_make 63 = .ok (.getfield 86, 3) := by decide +kernel
theorem dX8_make_66 : decode cX8_make 66 = .ok (.iconst 3, 1) := by decide +kernel
theorem dX8_make_67 : decode cX8_make 67 = .ok (.if_icmp .ne 14, 3) := by decide +kernel
theorem dX8_make_81 : decode cX8_make 81 = .ok (.iload_n 3, 1) := by decide +kernel
theorem dX8_make_82 : decode cX8_make 82 = .ok (.ireturn, 1) := by decide +kernel
theorem dX8_proxy_0 : decode cX8_proxy 0 = .ok (.aload_n 0, 1) := by decide +kernel
theorem dX8_proxy_1 : decode cX8_proxy 1 = .ok (.iload_n 1, 1) := by decide +kernel
theorem dX8_proxy_2 : decode cX8_proxy 2 = .ok (.invokevirtual 75, 3) := by decide +kernel
theorem dX8_proxy_5 : decode cX8_proxy 5 = .ok (.ifCond .ne 6, 3) := by decide +kernel
theorem dX8_proxy_8 : decode cX8_proxy 8 = .ok (.bipush (-2), 2) := by decide +kernel
theorem dX8_proxy_10 : decode cX8_proxy 10 = .ok (.ireturn, 1) := by decide +kernel
theorem dX8_proxy_11 : decode cX8_proxy 11 = .ok (.iload_n 2, 1) := by decide +kernel
theorem dX8_proxy_12 : decode cX8_proxy 12 = .ok (.ifCond .lt 8, 3) := by decide +kernel
theorem dX8_proxy_15 : decode cX8_proxy 15 = .ok (.iload_n 2, 1) := by decide +kernel
theorem dX8_proxy_16 : decode cX8_proxy 16 = .ok (.iconst 3, 1) := by decide +kernel
theorem dX8_proxy_17 : decode cX8_proxy 17 = .ok (.if_icmp .le 6, 3) := by decide +kernel
theorem dX8_proxy_20 : decode cX8_proxy 20 = .ok (.bipush (-3), 2) := by decide +kernel
theorem dX8_proxy_22 : decode cX8_proxy 22 = .ok (.ireturn, 1) := by decide +kernel
theorem dX8_proxy_23 : decode cX8_proxy 23 = .ok (.aload_n 0, 1) := by decide +kernel
theorem dX8_proxy_24 : decode cX8_proxy 24 = .ok (.getfield 11, 3) := by decide +kernel
theorem dX8_proxy_27 : decode cX8_proxy 27 = .ok (.iload_n 1, 1) := by decide +kernel
theorem dX8_proxy_28 : decode cX8_proxy 28 = .ok (.aaload, 1) := by decide +kernel
theorem dX8_proxy_29 : decode cX8_proxy 29 = .ok (.getfield 86, 3) := by decide +kernel
theorem dX8_proxy_32 : decode cX8_proxy 32 = .ok (.iconst 2, 1) := by decide +kernel
theorem dX8_proxy_33 : decode cX8_proxy 33 = .ok (.if_icmp .eq 6, 3) := by decide +kernel
theorem dX8_proxy_36 : decode cX8_proxy 36 = .ok (.bipush (-4), 2) := by decide +kernel
theorem dX8_proxy_38 : decode cX8_proxy 38 = .ok (.ireturn, 1) := by decide +kernel
theorem dX8_constant_0 : decode cX8_constant 0 = .ok (.aload_n 0, 1) := by decide +kernel
theorem dX8_constant_1 : decode cX8_constant 1 = .ok (.iload_n 1, 1) := by decide +kernel
theorem dX8_constant_2 : decode cX8_constant 2 = .ok (.invokevirtual 75, 3) := by decide +kernel
theorem dX8_constant_5 : decode cX8_constant 5 = .ok (.ifCond .ne 6, 3) := by decide +kernel
theorem dX8_constant_8 : decode cX8_constant 8 = .ok (.bipush (-2), 2) := by decide +kernel
theorem dX8_constant_10 : decode cX8_constant 10 = .ok (.ireturn, 1) := by decide +kernel
theorem dX8_constant_11 : decode cX8_constant 11 = .ok (.aload_n 0, 1) := by decide +kernel
theorem dX8_constant_12 : decode cX8_constant 12 = .ok (.getfield 11, 3) := by decide +kernel
theorem dX8_constant_15 : decode cX8_constant 15 = .ok (.iload_n 1, 1) := by decide +kernel
theorem dX8_constant_16 : decode cX8_constant 16 = .ok (.aaload, 1) := by decide +kernel
theorem dX8_constant_17 : decode cX8_constant 17 = .ok (.astore_n 3, 1) := by decide +kernel
theorem dX8_constant_18 : decode cX8_constant 18 = .ok (.aload_n 3, 1) := by decide +kernel
theorem dX8_constant_19 : decode cX8_constant 19 = .ok (.getfield 86, 3) := by decide +kernel
theorem dX8_constant_22 : decode cX8_constant 22 = .ok (.iconst 4, 1) := by decide +kernel
theorem dX8_constant_23 : decode cX8_constant 23 = .ok (.if_icmp .eq 6, 3) := by decide +kernel
theorem dX8_constant_26 : decode cX8_constant 26 = .ok (.bipush (-4), 2) := by decide +kernel
theorem dX8_constant_28 : decode cX8_constant 28 = .ok (.ireturn, 1) := by decide +kernel
theorem dX8_start_0 : decode cX8_start 0 = .ok (.aload_n 0, 1) := by decide +kernel
theorem dX8_start_1 : decode cX8_start 1 = .ok (.iload_n 1, 1) := by decide +kernel
theorem dX8_start_2 : decode cX8_start 2 = .ok (.invokevirtual 75, 3) := by decide +kernel
theorem dX8_start_5 : decode cX8_start 5 = .ok (.ifCond .ne 6, 3) := by decide +kernel
theorem dX8_start_8 : decode cX8_start 8 = .ok (.bipush (-2), 2) := by decide +kernel
theorem dX8_start_10 : decode cX8_start 10 = .ok (.ireturn, 1) := by decide +kernel
theorem dX8_start_11 : decode cX8_start 11 = .ok (.aload_n 0, 1) := by decide +kernel
theorem dX8_start_12 : decode cX8_start 12 = .ok (.aload_n 0, 1) := by decide +kernel
theorem dX8_start_13 : decode cX8_start 13 = .ok (.getfield 11, 3) := by decide +kernel
theorem dX8_start_16 : decode cX8_start 16 = .ok (.iload_n 1, 1) := by decide +kernel
theorem dX8_start_17 : decode cX8_start 17 = .ok (.aaload, 1) := by decide +kernel
theorem dX8_start_18 : decode cX8_start 18 = .ok (.invokevirtual 252, 3) := by decide +kernel
theorem dX8_start_21 : decode cX8_start 21 = .ok (.istore_n 2, 1) := by decide +kernel
theorem dX8_start_22 : decode cX8_start 22 = .ok (.iload_n 2, 1) := by decide +kernel
theorem dX8_start_23 : decode cX8_start 23 = .ok (.ifCond .eq 11, 3) := by decide +kernel
theorem dX8_start_34 : decode cX8_start 34 = .ok (.iconst 1, 1) := by decide +kernel
theorem dX8_start_35 : decode cX8_start 35 = .ok (.ireturn, 1) := by decide +kernel
theorem dX8_resultKind_0 : decode cX8_resultKind 0 = .ok (.aload_n 0, 1) := by decide +kernel
theorem dX8_resultKind_1 : decode cX8_resultKind 1 = .ok (.getfield 62, 3) := by decide +kernel
theorem dX8_resultKind_4 : decode cX8_resultKind 4 = .ok (.getfield 258, 3) := by decide +kernel
theorem dX8_resultKind_7 : decode cX8_resultKind 7 = .ok (.ireturn, 1) := by decide +kernel
theorem dX8_result_0 : decode cX8_result 0 = .ok (.aload_n 0, 1) := by decide +kernel
theorem dX8_result_1 : decode cX8_result 1 = .ok (.getfield 62, 3) := by decide +kernel
theorem dX8_result_4 : decode cX8_result 4 = .ok (.getfield 261, 3) := by decide +kernel
theorem dX8_result_7 : decode cX8_result 7 = .ok (.lreturn, 1) := by decide +kernel
theorem dX8_cause_0 : decode cX8_cause 0 = .ok (.aload_n 0, 1) := by decide +kernel
theorem dX8_cause_1 : decode cX8_cause 1 = .ok (.getfield 69, 3) := by decide +kernel
theorem dX8_cause_4 : decode cX8_cause 4 = .ok (.ireturn, 1) := by decide +kernel
theorem dX8_about_0 : decode cX8_about 0 = .ok (.aload_n 0, 1) := by decide +kernel
theorem dX8_about_1 : decode cX8_about 1 = .ok (.iload_n 1, 1) := by decide +kernel
theorem dX8_about_2 : decode cX8_about 2 = .ok (.invokevirtual 75, 3) := by decide +kernel
theorem dX8_about_5 : decode cX8_about 5 = .ok (.ifCond .ne 6, 3) := by decide +kernel
theorem dX8_about_8 : decode cX8_about 8 = .ok (.bipush (-2), 2) := by decide +kernel
theorem dX8_about_10 : decode cX8_about 10 = .ok (.ireturn, 1) := by decide +kernel
theorem dX8_about_11 : decode cX8_about 11 = .ok (.aload_n 0, 1) := by decide +kernel
theorem dX8_about_12 : decode cX8_about 12 = .ok (.getfield 11, 3) := by decide +kernel
theorem dX8_about_15 : decode cX8_about 15 = .ok (.iload_n 1, 1) := by decide +kernel
theorem dX8_about_16 : decode cX8_about 16 = .ok (.aaload, 1) := by decide +kernel
theorem dX8_about_17 : decode cX8_about 17 = .ok (.astore_n 3, 1) := by decide +kernel
theorem dX8_about_18 : decode cX8_about 18 = .ok (.iload_n 2, 1) := by decide +kernel
theorem dX8_about_19 : decode cX8_about 19 = .ok (.tableswitch 86 0 4 #[33, 38, 57, 76, 81], 33) := by decide +kernel
theorem dX8_about_52 : decode cX8_about 52 = .ok (.aload_n 3, 1) := by decide +kernel
theorem dX8_about_53 : decode cX8_about 53 = .ok (.getfield 86, 3) := by decide +kernel
theorem dX8_about_56 : decode cX8_about 56 = .ok (.ireturn, 1) := by decide +kernel
theorem dX8_about_57 : decode cX8_about 57 = .ok (.aload_n 3, 1) := by decide +kernel
theorem dX8_about_58 : decode cX8_about 58 = .ok (.getfield 264, 3) := by decide +kernel
theorem dX8_about_61 : decode cX8_about 61 = .ok (.ifnonnull 7, 3) := by decide +kernel
theorem dX8_about_64 : decode cX8_about 64 = .ok (.iconst (-1), 1) := by decide +kernel
theorem dX8_about_65 : decode cX8_about 65 = .ok (.goto 10, 3) := by decide +kernel
theorem dX8_about_75 : decode cX8_about 75 = .ok (.ireturn, 1) := by decide +kernel
theorem dX8_about_76 : decode cX8_about 76 = .ok (.aload_n 3, 1) := by decide +kernel
theorem dX8_about_77 : decode cX8_about 77 = .ok (.getfield 267, 3) := by decide +kernel
theorem dX8_about_80 : decode cX8_about 80 = .ok (.ifnonnull 7, 3) := by decide +kernel
theorem dX8_about_83 : decode cX8_about 83 = .ok (.iconst (-1), 1) := by decide +kernel
theorem dX8_about_84 : decode cX8_about 84 = .ok (.goto 10, 3) := by decide +kernel
theorem dX8_about_94 : decode cX8_about 94 = .ok (.ireturn, 1) := by decide +kernel
theorem dX8_about_95 : decode cX8_about 95 = .ok (.aload_n 3, 1) := by decide +kernel
theorem dX8_about_96 : decode cX8_about 96 = .ok (.getfield 92, 3) := by decide +kernel
theorem dX8_about_99 : decode cX8_about 99 = .ok (.ireturn, 1) := by decide +kernel
theorem dX8_about_100 : decode cX8_about 100 = .ok (.aload_n 3, 1) := by decide +kernel
theorem dX8_about_101 : decode cX8_about 101 = .ok (.getfield 270, 3) := by decide +kernel
theorem dX8_about_104 : decode cX8_about 104 = .ok (.ireturn, 1) := by decide +kernel
theorem dX8_about_105 : decode cX8_about 105 = .ok (.bipush (-3), 2) := by decide +kernel
theorem dX8_about_107 : decode cX8_about 107 = .ok (.ireturn, 1) := by decide +kernel
theorem dX8_is_0 : decode cX8_is 0 = .ok (.aload_n 0, 1) := by decide +kernel
theorem dX8_is_1 : decode cX8_is 1 = .ok (.iload_n 1, 1) := by decide +kernel
theorem dX8_is_2 : decode cX8_is 2 = .ok (.invokevirtual 273, 3) := by decide +kernel
theorem dX8_is_5 : decode cX8_is 5 = .ok (.ifCond .eq 11, 3) := by decide +kernel
theorem dX8_is_16 : decode cX8_is 16 = .ok (.bipush (-2), 2) := by decide +kernel
theorem dX8_is_18 : decode cX8_is 18 = .ok (.ireturn, 1) := by decide +kernel
theorem dX8_handle_0 : decode cX8_handle 0 = .ok (.aload_n 0, 1) := by decide +kernel
theorem dX8_handle_1 : decode cX8_handle 1 = .ok (.iload_n 1, 1) := by decide +kernel
theorem dX8_handle_2 : decode cX8_handle 2 = .ok (.invokevirtual 168, 3) := by decide +kernel
theorem dX8_handle_5 : decode cX8_handle 5 = .ok (.ifCond .ne 6, 3) := by decide +kernel
theorem dX8_handle_8 : decode cX8_handle 8 = .ok (.bipush (-2), 2) := by decide +kernel
theorem dX8_handle_10 : decode cX8_handle 10 = .ok (.ireturn, 1) := by decide +kernel
theorem dX8_told_0 : decode cX8_told 0 = .ok (.iload_n 1, 1) := by decide +kernel
theorem dX8_told_1 : decode cX8_told 1 = .ok (.tableswitch 69 0 5 #[39, 44, 49, 54, 59, 64], 39) := by decide +kernel
theorem dX8_told_40 : decode cX8_told 40 = .ok (.aload_n 0, 1) := by decide +kernel
theorem dX8_told_41 : decode cX8_told 41 = .ok (.getfield 15, 3) := by decide +kernel
theorem dX8_told_44 : decode cX8_told 44 = .ok (.ireturn, 1) := by decide +kernel
theorem dX8_told_45 : decode cX8_told 45 = .ok (.aload_n 0, 1) := by decide +kernel
theorem dX8_told_46 : decode cX8_told 46 = .ok (.getfield 25, 3) := by decide +kernel
theorem dX8_told_49 : decode cX8_told 49 = .ok (.ireturn, 1) := by decide +kernel
theorem dX8_told_50 : decode cX8_told 50 = .ok (.aload_n 0, 1) := by decide +kernel
theorem dX8_told_51 : decode cX8_told 51 = .ok (.getfield 37, 3) := by decide +kernel
theorem dX8_told_54 : decode cX8_told 54 = .ok (.ireturn, 1) := by decide +kernel
theorem dX8_told_55 : decode cX8_told 55 = .ok (.aload_n 0, 1) := by decide +kernel
theorem dX8_told_56 : decode cX8_told 56 = .ok (.getfield 46, 3) := by decide +kernel
theorem dX8_told_59 : decode cX8_told 59 = .ok (.ireturn, 1) := by decide +kernel
theorem dX8_told_60 : decode cX8_told 60 = .ok (.aload_n 0, 1) := by decide +kernel
theorem dX8_told_61 : decode cX8_told 61 = .ok (.getfield 55, 3) := by decide +kernel
theorem dX8_told_64 : decode cX8_told 64 = .ok (.ireturn, 1) := by decide +kernel
theorem dX8_told_65 : decode cX8_told 65 = .ok (.aload_n 0, 1) := by decide +kernel
theorem dX8_told_66 : decode cX8_told 66 = .ok (.getfield 66, 3) := by decide +kernel
theorem dX8_told_69 : decode cX8_told 69 = .ok (.ireturn, 1) := by decide +kernel
theorem dX8_told_70 : decode cX8_told 70 = .ok (.bipush (-3), 2) := by decide +kernel
theorem dX8_told_72 : decode cX8_told 72 = .ok (.ireturn, 1) := by decide +kernel
theorem dX8_isClass_0 : decode cX8_isClass 0 = .ok (.iload_n 1, 1) := by decide +kernel
theorem dX8_isClass_1 : decode cX8_isClass 1 = .ok (.ifCond .lt 15, 3) := by decide +kernel
theorem dX8_isClass_4 : decode cX8_isClass 4 = .ok (.iload_n 1, 1) := by decide +kernel
theorem dX8_isClass_5 : decode cX8_isClass 5 = .ok (.aload_n 0, 1) := by decide +kernel
theorem dX8_isClass_6 : decode cX8_isClass 6 = .ok (.getfield 15, 3) := by decide +kernel
theorem dX8_isClass_9 : decode cX8_isClass 9 = .ok (.if_icmp .ge 7, 3) := by decide +kernel
theorem dX8_isClass_12 : decode cX8_isClass 12 = .ok (.iconst 1, 1) := by decide +kernel
theorem dX8_isClass_13 : decode cX8_isClass 13 = .ok (.goto 4, 3) := by decide +kernel
theorem dX8_isClass_16 : decode cX8_isClass 16 = .ok (.iconst 0, 1) := by decide +kernel
theorem dX8_isClass_17 : decode cX8_isClass 17 = .ok (.ireturn, 1) := by decide +kernel
theorem dX8_isHandle_0 : decode cX8_isHandle 0 = .ok (.iload_n 1, 1) := by decide +kernel
theorem dX8_isHandle_1 : decode cX8_isHandle 1 = .ok (.ifCond .lt 15, 3) := by decide +kernel
theorem dX8_isHandle_4 : decode cX8_isHandle 4 = .ok (.iload_n 1, 1) := by decide +kernel
theorem dX8_isHandle_5 : decode cX8_isHandle 5 = .ok (.aload_n 0, 1) := by decide +kernel
theorem dX8_isHandle_6 : decode cX8_isHandle 6 = .ok (.getfield 37, 3) := by decide +kernel
theorem dX8_isHandle_9 : decode cX8_isHandle 9 = .ok (.if_icmp .ge 7, 3) := by decide +kernel
theorem dX8_isHandle_16 : decode cX8_isHandle 16 = .ok (.iconst 0, 1) := by decide +kernel
theorem dX8_isHandle_17 : decode cX8_isHandle 17 = .ok (.ireturn, 1) := by decide +kernel
theorem dX8_isThing_0 : decode cX8_isThing 0 = .ok (.iload_n 1, 1) := by decide +kernel
theorem dX8_isThing_1 : decode cX8_isThing 1 = .ok (.ifCond .lt 15, 3) := by decide +kernel
theorem dX8_isThing_4 : decode cX8_isThing 4 = .ok (.iload_n 1, 1) := by decide +kernel
theorem dX8_isThing_5 : decode cX8_isThing 5 = .ok (.aload_n 0, 1) := by decide +kernel
theorem dX8_isThing_6 : decode cX8_isThing 6 = .ok (.getfield 46, 3) := by decide +kernel
theorem dX8_isThing_9 : decode cX8_isThing 9 = .ok (.if_icmp .ge 7, 3) := by decide +kernel
theorem dX8_isThing_16 : decode cX8_isThing 16 = .ok (.iconst 0, 1) := by decide +kernel
theorem dX8_isThing_17 : decode cX8_isThing 17 = .ok (.ireturn, 1) := by decide +kernel
theorem dX8_isMissingClass_0 : decode cX8_isMissingClass 0 = .ok (.iload_n 1, 1) := by decide +kernel
theorem dX8_isMissingClass_1 : decode cX8_isMissingClass 1 = .ok (.aload_n 0, 1) := by decide +kernel
theorem dX8_isMissingClass_2 : decode cX8_isMissingClass 2 = .ok (.getfield 15, 3) := by decide +kernel
theorem dX8_isMissingClass_5 : decode cX8_isMissingClass 5 = .ok (.if_icmp .lt 7, 3) := by decide +kernel
theorem dX8_isMissingClass_8 : decode cX8_isMissingClass 8 = .ok (.iconst 1, 1) := by decide +kernel
theorem dX8_isMissingClass_9 : decode cX8_isMissingClass 9 = .ok (.goto 4, 3) := by decide +kernel
theorem dX8_isMissingClass_12 : decode cX8_isMissingClass 12 = .ok (.iconst 0, 1) := by decide +kernel
theorem dX8_isMissingClass_13 : decode cX8_isMissingClass 13 = .ok (.ireturn, 1) := by decide +kernel
theorem dX8_hasMissingClass_0 : decode cX8_hasMissingClass 0 = .ok (.aload_n 0, 1) := by decide +kernel
theorem dX8_hasMissingClass_1 : decode cX8_hasMissingClass 1 = .ok (.aload_n 1, 1) := by decide +kernel
theorem dX8_hasMissingClass_2 : decode cX8_hasMissingClass 2 = .ok (.getfield 287, 3) := by decide +kernel
theorem dX8_hasMissingClass_5 : decode cX8_hasMissingClass 5 = .ok (.invokevirtual 95, 3) := by decide +kernel
theorem dX8_hasMissingClass_8 : decode cX8_hasMissingClass 8 = .ok (.ifCond .ne 14, 3) := by decide +kernel
theorem dX8_hasMissingClass_11 : decode cX8_hasMissingClass 11 = .ok (.aload_n 0, 1) := by decide +kernel
theorem dX8_hasMissingClass_12 : decode cX8_hasMissingClass 12 = .ok (.aload_n 1, 1) := by decide +kernel
theorem dX8_hasMissingClass_13 : decode cX8_hasMissingClass 13 = .ok (.getfield 290, 3) := by decide +kernel
theorem dX8_hasMissingClass_16 : decode cX8_hasMissingClass 16 = .ok (.invokevirtual 95, 3) := by decide +kernel
theorem dX8_hasMissingClass_19 : decode cX8_hasMissingClass 19 = .ok (.ifCond .eq 7, 3) := by decide +kernel
theorem dX8_hasMissingClass_22 : decode cX8_hasMissingClass 22 = .ok (.iconst 1, 1) := by decide +kernel
theorem dX8_hasMissingClass_23 : decode cX8_hasMissingClass 23 = .ok (.goto 4, 3) := by decide +kernel
theorem dX8_hasMissingClass_26 : decode cX8_hasMissingClass 26 = .ok (.iconst 0, 1) := by decide +kernel
theorem dX8_hasMissingClass_27 : decode cX8_hasMissingClass 27 = .ok (.ireturn, 1) := by decide +kernel
theorem dX8_isOutsideName_0 : decode cX8_isOutsideName 0 = .ok (.iload_n 0, 1) := by decide +kernel
theorem dX8_isOutsideName_1 : decode cX8_isOutsideName 1 = .ok (.ifCond .lt 9, 3) := by decide +kernel
theorem dX8_isOutsideName_4 : decode cX8_isOutsideName 4 = .ok (.iload_n 0, 1) := by decide +kernel
theorem dX8_isOutsideName_5 : decode cX8_isOutsideName 5 = .ok (.bipush 19, 2) := by decide +kernel
theorem dX8_isOutsideName_7 : decode cX8_isOutsideName 7 = .ok (.if_icmp .le 7, 3) := by decide +kernel
theorem dX8_isOutsideName_10 : decode cX8_isOutsideName 10 = .ok (.iconst 1, 1) := by decide +kernel
theorem dX8_isOutsideName_11 : decode cX8_isOutsideName 11 = .ok (.goto 4, 3) := by decide +kernel
theorem dX8_isOutsideName_14 : decode cX8_isOutsideName 14 = .ok (.iconst 0, 1) := by decide +kernel
theorem dX8_isOutsideName_15 : decode cX8_isOutsideName 15 = .ok (.ireturn, 1) := by decide +kernel
theorem dX8_hasMark_0 : decode cX8_hasMark 0 = .ok (.iload_n 0, 1) := by decide +kernel
theorem dX8_hasMark_1 : decode cX8_hasMark 1 = .ok (.iload_n 1, 1) := by decide +kernel
theorem dX8_hasMark_2 : decode cX8_hasMark 2 = .ok (.iand, 1) := by decide +kernel
theorem dX8_hasMark_3 : decode cX8_hasMark 3 = .ok (.ifCond .eq 7, 3) := by decide +kernel
theorem dX8_hasMark_6 : decode cX8_hasMark 6 = .ok (.iconst 1, 1) := by decide +kernel
theorem dX8_hasMark_7 : decode cX8_hasMark 7 = .ok (.goto 4, 3) := by decide +kernel
theorem dX8_hasMark_10 : decode cX8_hasMark 10 = .ok (.iconst 0, 1) := by decide +kernel
theorem dX8_hasMark_11 : decode cX8_hasMark 11 = .ok (.ireturn, 1) := by decide +kernel
theorem dX8_areOutsideMarks_0 : decode cX8_areOutsideMarks 0 = .ok (.iload_n 0, 1) := by decide +kernel
theorem dX8_areOutsideMarks_1 : decode cX8_areOutsideMarks 1 = .ok (.ifCond .lt 22, 3) := by decide +kernel
theorem dX8_areOutsideMarks_4 : decode cX8_areOutsideMarks 4 = .ok (.iload_n 0, 1) := by decide +kernel
theorem dX8_areOutsideMarks_5 : decode cX8_areOutsideMarks 5 = .ok (.bipush 7, 2) := by decide +kernel
theorem dX8_areOutsideMarks_7 : decode cX8_areOutsideMarks 7 = .ok (.if_icmp .gt 16, 3) := by decide +kernel
theorem dX8_areOutsideMarks_10 : decode cX8_areOutsideMarks 10 = .ok (.iload_n 0, 1) := by decide +kernel
theorem dX8_areOutsideMarks_11 : decode cX8_areOutsideMarks 11 = .ok (.iconst 2, 1) := by decide +kernel
theorem dX8_areOutsideMarks_12 : decode cX8_areOutsideMarks 12 = .ok (.invokestatic 293, 3) := by decide +kernel
theorem dX8_areOutsideMarks_15 : decode cX8_areOutsideMarks 15 = .ok (.ifCond .eq 12, 3) := by decide +kernel
theorem dX8_areOutsideMarks_18 : decode cX8_areOutsideMarks 18 = .ok (.iload_n 0, 1) := by decide +kernel
theorem dX8_areOutsideMarks_19 : decode cX8_areOutsideMarks 19 = .ok (.iconst 2, 1) := by decide +kernel
theorem dX8_areOutsideMarks_20 : decode cX8_areOutsideMarks 20 = .ok (.if_icmp .eq 7, 3) := by decide +kernel
theorem dX8_areOutsideMarks_23 : decode cX8_areOutsideMarks 23 = .ok (.iconst 1, 1) := by decide +kernel
theorem dX8_areOutsideMarks_24 : decode cX8_areOutsideMarks 24 = .ok (.goto 4, 3) := by decide +kernel
theorem dX8_areOutsideMarks_27 : decode cX8_areOutsideMarks 27 = .ok (.iconst 0, 1) := by decide +kernel
theorem dX8_areOutsideMarks_28 : decode cX8_areOutsideMarks 28 = .ok (.ireturn, 1) := by decide +kernel
theorem dX8_isOutsideBody_0 : decode cX8_isOutsideBody 0 = .ok (.iload_n 0, 1) := by decide +kernel
theorem dX8_isOutsideBody_1 : decode cX8_isOutsideBody 1 = .ok (.ifCond .lt 24, 3) := by decide +kernel
theorem dX8_isOutsideBody_4 : decode cX8_isOutsideBody 4 = .ok (.iload_n 0, 1) := by decide +kernel
theorem dX8_isOutsideBody_5 : decode cX8_isOutsideBody 5 = .ok (.bipush 7, 2) := by decide +kernel
theorem dX8_isOutsideBody_7 : decode cX8_isOutsideBody 7 = .ok (.if_icmp .gt 18, 3) := by decide +kernel
theorem dX8_isOutsideBody_10 : decode cX8_isOutsideBody 10 = .ok (.iload_n 0, 1) := by decide +kernel
theorem dX8_isOutsideBody_11 : decode cX8_isOutsideBody 11 = .ok (.iconst 5, 1) := by decide +kernel
theorem dX8_isOutsideBody_12 : decode cX8_isOutsideBody 12 = .ok (.if_icmp .ne 17, 3) := by decide +kernel
theorem dX8_isOutsideBody_15 : decode cX8_isOutsideBody 15 = .ok (.iload_n 1, 1) := by decide +kernel
theorem dX8_isOutsideBody_16 : decode cX8_isOutsideBody 16 = .ok (.ifCond .lt 9, 3) := by decide +kernel
theorem dX8_isOutsideBody_19 : decode cX8_isOutsideBody 19 = .ok (.iload_n 1, 1) := by decide +kernel
theorem dX8_isOutsideBody_20 : decode cX8_isOutsideBody 20 = .ok (.bipush 99, 2) := by decide +kernel
theorem dX8_isOutsideBody_22 : decode cX8_isOutsideBody 22 = .ok (.if_icmp .le 7, 3) := by decide +kernel
theorem dX8_isOutsideBody_25 : decode cX8_isOutsideBody 25 = .ok (.iconst 1, 1) := by decide +kernel
theorem dX8_isOutsideBody_26 : decode cX8_isOutsideBody 26 = .ok (.goto 4, 3) := by decide +kernel
theorem dX8_isOutsideBody_29 : decode cX8_isOutsideBody 29 = .ok (.iconst 0, 1) := by decide +kernel
theorem dX8_isOutsideBody_30 : decode cX8_isOutsideBody 30 = .ok (.ireturn, 1) := by decide +kernel
theorem dX8_mayHaveAbove_0 : decode cX8_mayHaveAbove 0 = .ok (.aload_n 1, 1) := by decide +kernel
theorem dX8_mayHaveAbove_1 : decode cX8_mayHaveAbove 1 = .ok (.getfield 86, 3) := by decide +kernel
theorem dX8_mayHaveAbove_4 : decode cX8_mayHaveAbove 4 = .ok (.iconst 3, 1) := by decide +kernel
theorem dX8_mayHaveAbove_5 : decode cX8_mayHaveAbove 5 = .ok (.if_icmp .eq 11, 3) := by decide +kernel
theorem dX8_mayHaveAbove_8 : decode cX8_mayHaveAbove 8 = .ok (.aload_n 1, 1) := by decide +kernel
theorem dX8_mayHaveAbove_9 : decode cX8_mayHaveAbove 9 = .ok (.getfield 86, 3) := by decide +kernel
theorem dX8_mayHaveAbove_12 : decode cX8_mayHaveAbove 12 = .ok (.iconst 4, 1) := by decide +kernel
theorem dX8_mayHaveAbove_13 : decode cX8_mayHaveAbove 13 = .ok (.if_icmp .ne 5, 3) := by decide +kernel
theorem dX8_mayHaveAbove_18 : decode cX8_mayHaveAbove 18 = .ok (.iload_n 0, 1) := by decide +kernel
theorem dX8_mayHaveAbove_19 : decode cX8_mayHaveAbove 19 = .ok (.ifCond .eq 8, 3) := by decide +kernel
theorem dX8_mayHaveAbove_22 : decode cX8_mayHaveAbove 22 = .ok (.iload_n 0, 1) := by decide +kernel
theorem dX8_mayHaveAbove_23 : decode cX8_mayHaveAbove 23 = .ok (.iconst 1, 1) := by decide +kernel
theorem dX8_mayHaveAbove_24 : decode cX8_mayHaveAbove 24 = .ok (.if_icmp .ne 5, 3) := by decide +kernel
theorem dX8_mayHaveAbove_27 : decode cX8_mayHaveAbove 27 = .ok (.iconst 1, 1) := by decide +kernel
theorem dX8_mayHaveAbove_28 : decode cX8_mayHaveAbove 28 = .ok (.ireturn, 1) := by decide +kernel
theorem dX8_mayHaveAbove_29 : decode cX8_mayHaveAbove 29 = .ok (.aload_n 1, 1) := by decide +kernel
theorem dX8_mayHaveAbove_30 : decode cX8_mayHaveAbove 30 = .ok (.getfield 180, 3) := by decide +kernel
theorem dX8_mayHaveAbove_33 : decode cX8_mayHaveAbove 33 = .ok (.ifCond .eq 16, 3) := by decide +kernel
theorem dX8_mayHaveAbove_49 : decode cX8_mayHaveAbove 49 = .ok (.iconst 1, 1) := by decide +kernel
theorem dX8_mayHaveAbove_50 : decode cX8_mayHaveAbove 50 = .ok (.goto 4, 3) := by decide +kernel
theorem dX8_mayHaveAbove_54 : decode cX8_mayHaveAbove 54 = .ok (.ireturn, 1) := by decide +kernel
theorem dX8_mayActAs_0 : decode cX8_mayActAs 0 = .ok (.aload_n 1, 1) := by decide +kernel
theorem dX8_mayActAs_1 : decode cX8_mayActAs 1 = .ok (.ifnull 16, 3) := by decide +kernel
theorem dX8_mayActAs_4 : decode cX8_mayActAs 4 = .ok (.iload_n 0, 1) := by decide +kernel
theorem dX8_mayActAs_5 : decode cX8_mayActAs 5 = .ok (.iconst 2, 1) := by decide +kernel
theorem dX8_mayActAs_6 : decode cX8_mayActAs 6 = .ok (.if_icmp .eq 15, 3) := by decide +kernel
theorem dX8_mayActAs_9 : decode cX8_mayActAs 9 = .ok (.aload_n 1, 1) := by decide +kernel
theorem dX8_mayActAs_10 : decode cX8_mayActAs 10 = .ok (.getfield 86, 3) := by decide +kernel
theorem dX8_mayActAs_13 : decode cX8_mayActAs 13 = .ok (.iconst 2, 1) := by decide +kernel
theorem dX8_mayActAs_14 : decode cX8_mayActAs 14 = .ok (.if_icmp .ne 7, 3) := by decide +kernel
theorem dX8_mayActAs_17 : decode cX8_mayActAs 17 = .ok (.iconst 1, 1) := by decide +kernel
theorem dX8_mayActAs_18 : decode cX8_mayActAs 18 = .ok (.goto 4, 3) := by decide +kernel
theorem dX8_mayActAs_21 : decode cX8_mayActAs 21 = .ok (.iconst 0, 1) := by decide +kernel
theorem dX8_mayActAs_22 : decode cX8_mayActAs 22 = .ok (.ireturn, 1) := by decide +kernel
theorem dX8_mayHaveField_0 : decode cX8_mayHaveField 0 = .ok (.aload_n 0, 1) := by decide +kernel
theorem dX8_mayHaveField_1 : decode cX8_mayHaveField 1 = .ok (.getfield 180, 3) := by decide +kernel
theorem dX8_mayHaveField_4 : decode cX8_mayHaveField 4 = .ok (.ifCond .eq 11, 3) := by decide +kernel
theorem dX8_mayHaveField_15 : decode cX8_mayHaveField 15 = .ok (.iload_n 1, 1) := by decide +kernel
theorem dX8_mayHaveField_16 : decode cX8_mayHaveField 16 = .ok (.ireturn, 1) := by decide +kernel
theorem dX8_mayHaveMethod_0 : decode cX8_mayHaveMethod 0 = .ok (.aload_n 0, 1) := by decide +kernel
theorem dX8_mayHaveMethod_1 : decode cX8_mayHaveMethod 1 = .ok (.getfield 150, 3) := by decide +kernel
theorem dX8_mayHaveMethod_4 : decode cX8_mayHaveMethod 4 = .ok (.getfield 86, 3) := by decide +kernel
theorem dX8_mayHaveMethod_7 : decode cX8_mayHaveMethod 7 = .ok (.istore_n 1, 1) := by decide +kernel
theorem dX8_mayHaveMethod_8 : decode cX8_mayHaveMethod 8 = .ok (.iload_n 1, 1) := by decide +kernel
theorem dX8_mayHaveMethod_9 : decode cX8_mayHaveMethod 9 = .ok (.iconst 2, 1) := by decide +kernel
theorem dX8_mayHaveMethod_10 : decode cX8_mayHaveMethod 10 = .ok (.if_icmp .ne 23, 3) := by decide +kernel
theorem dX8_mayHaveMethod_33 : decode cX8_mayHaveMethod 33 = .ok (.aload_n 0, 1) := by decide +kernel
theorem dX8_mayHaveMethod_34 : decode cX8_mayHaveMethod 34 = .ok (.getfield 296, 3) := by decide +kernel
theorem dX8_mayHaveMethod_37 : decode cX8_mayHaveMethod 37 = .ok (.ifCond .eq 8, 3) := by decide +kernel
theorem dX8_mayHaveMethod_40 : decode cX8_mayHaveMethod 40 = .ok (.iload_n 1, 1) := by decide +kernel
theorem dX8_mayHaveMethod_41 : decode cX8_mayHaveMethod 41 = .ok (.iconst 1, 1) := by decide +kernel
theorem dX8_mayHaveMethod_42 : decode cX8_mayHaveMethod 42 = .ok (.if_icmp .ne 7, 3) := by decide +kernel
theorem dX8_mayHaveMethod_45 : decode cX8_mayHaveMethod 45 = .ok (.iconst 1, 1) := by decide +kernel
theorem dX8_mayHaveMethod_46 : decode cX8_mayHaveMethod 46 = .ok (.goto 4, 3) := by decide +kernel
theorem dX8_mayHaveMethod_49 : decode cX8_mayHaveMethod 49 = .ok (.iconst 0, 1) := by decide +kernel
theorem dX8_mayHaveMethod_50 : decode cX8_mayHaveMethod 50 = .ok (.ireturn, 1) := by decide +kernel
theorem dX8_bodySuits_0 : decode cX8_bodySuits 0 = .ok (.aload_n 1, 1) := by decide +kernel
theorem dX8_bodySuits_1 : decode cX8_bodySuits 1 = .ok (.getfield 302, 3) := by decide +kernel
theorem dX8_bodySuits_4 : decode cX8_bodySuits 4 = .ok (.tableswitch 157 1 7 #[44, 82, 109, 136, 157, 144, 82], 44) := by decide +kernel
theorem dX8_bodySuits_48 : decode cX8_bodySuits 48 = .ok (.aload_n 1, 1) := by decide +kernel
theorem dX8_bodySuits_49 : decode cX8_bodySuits 49 = .ok (.getfield 305, 3) := by decide +kernel
theorem dX8_bodySuits_52 : decode cX8_bodySuits 52 = .ok (.invokevirtual 309, 3) := by decide +kernel
theorem dX8_bodySuits_55 : decode cX8_bodySuits 55 = .ok (.ifCond .eq 29, 3) := by decide +kernel
theorem dX8_bodySuits_58 : decode cX8_bodySuits 58 = .ok (.aload_n 1, 1) := by decide +kernel
theorem dX8_bodySuits_59 : decode cX8_bodySuits 59 = .ok (.getfield 305, 3) := by decide +kernel
theorem dX8_bodySuits_62 : decode cX8_bodySuits 62 = .ok (.getfield 312, 3) := by decide +kernel
theorem dX8_bodySuits_65 : decode cX8_bodySuits 65 = .ok (.iconst 1, 1) := by decide +kernel
theorem dX8_bodySuits_66 : decode cX8_bodySuits 66 = .ok (.if_icmp .le 18, 3) := by decide +kernel
theorem dX8_bodySuits_69 : decode cX8_bodySuits 69 = .ok (.aload_n 1, 1) := by decide +kernel
theorem dX8_bodySuits_70 : decode cX8_bodySuits 70 = .ok (.getfield 305, 3) := by decide +kernel
theorem dX8_bodySuits_73 : decode cX8_bodySuits 73 = .ok (.getfield 290, 3) := by decide +kernel
theorem dX8_bodySuits_76 : decode cX8_bodySuits 76 = .ok (.iconst (-1), 1) := by decide +kernel
theorem dX8_bodySuits_77 : decode cX8_bodySuits 77 = .ok (.if_icmp .ne 7, 3) := by decide +kernel
theorem dX8_bodySuits_80 : decode cX8_bodySuits 80 = .ok (.iconst 1, 1) := by decide +kernel
theorem dX8_bodySuits_81 : decode cX8_bodySuits 81 = .ok (.goto 4, 3) := by decide +kernel
theorem dX8_bodySuits_84 : decode cX8_bodySuits 84 = .ok (.iconst 0, 1) := by decide +kernel
theorem dX8_bodySuits_85 : decode cX8_bodySuits 85 = .ok (.ireturn, 1) := by decide +kernel
theorem dX8_bodySuits_86 : decode cX8_bodySuits 86 = .ok (.aload_n 1, 1) := by decide +kernel
theorem dX8_bodySuits_87 : decode cX8_bodySuits 87 = .ok (.getfield 305, 3) := by decide +kernel
theorem dX8_bodySuits_90 : decode cX8_bodySuits 90 = .ok (.invokevirtual 315, 3) := by decide +kernel
theorem dX8_bodySuits_93 : decode cX8_bodySuits 93 = .ok (.ifCond .eq 18, 3) := by decide +kernel
theorem dX8_bodySuits_96 : decode cX8_bodySuits 96 = .ok (.aload_n 0, 1) := by decide +kernel
theorem dX8_bodySuits_97 : decode cX8_bodySuits 97 = .ok (.aload_n 1, 1) := by decide +kernel
theorem dX8_bodySuits_98 : decode cX8_bodySuits 98 = .ok (.getfield 318, 3) := by decide +kernel
theorem dX8_bodySuits_101 : decode cX8_bodySuits 101 = .ok (.invokevirtual 75, 3) := by decide +kernel
theorem dX8_bodySuits_104 : decode cX8_bodySuits 104 = .ok (.ifCond .eq 7, 3) := by decide +kernel
theorem dX8_bodySuits_107 : decode cX8_bodySuits 107 = .ok (.iconst 1, 1) := by decide +kernel
theorem dX8_bodySuits_108 : decode cX8_bodySuits 108 = .ok (.goto 4, 3) := by decide +kernel
theorem dX8_bodySuits_111 : decode cX8_bodySuits 111 = .ok (.iconst 0, 1) := by decide +kernel
theorem dX8_bodySuits_112 : decode cX8_bodySuits 112 = .ok (.ireturn, 1) := by decide +kernel
theorem dX8_bodySuits_113 : decode cX8_bodySuits 113 = .ok (.aload_n 1, 1) := by decide +kernel
theorem dX8_bodySuits_114 : decode cX8_bodySuits 114 = .ok (.getfield 305, 3) := by decide +kernel
theorem dX8_bodySuits_117 : decode cX8_bodySuits 117 = .ok (.invokevirtual 315, 3) := by decide +kernel
theorem dX8_bodySuits_120 : decode cX8_bodySuits 120 = .ok (.ifCond .eq 18, 3) := by decide +kernel
theorem dX8_bodySuits_123 : decode cX8_bodySuits 123 = .ok (.aload_n 0, 1) := by decide +kernel
theorem dX8_bodySuits_124 : decode cX8_bodySuits 124 = .ok (.aload_n 1, 1) := by decide +kernel
theorem dX8_bodySuits_125 : decode cX8_bodySuits 125 = .ok (.getfield 318, 3) := by decide +kernel
theorem dX8_bodySuits_128 : decode cX8_bodySuits 128 = .ok (.invokevirtual 321, 3) := by decide +kernel
theorem dX8_bodySuits_131 : decode cX8_bodySuits 131 = .ok (.ifnull 7, 3) := by decide +kernel
theorem dX8_bodySuits_138 : decode cX8_bodySuits 138 = .ok (.iconst 0, 1) := by decide +kernel
theorem dX8_bodySuits_139 : decode cX8_bodySuits 139 = .ok (.ireturn, 1) := by decide +kernel
theorem dX8_bodySuits_140 : decode cX8_bodySuits 140 = .ok (.aload_n 1, 1) := by decide +kernel
theorem dX8_bodySuits_141 : decode cX8_bodySuits 141 = .ok (.getfield 305, 3) := by decide +kernel
theorem dX8_bodySuits_144 : decode cX8_bodySuits 144 = .ok (.invokevirtual 309, 3) := by decide +kernel
theorem dX8_bodySuits_147 : decode cX8_bodySuits 147 = .ok (.ireturn, 1) := by decide +kernel
theorem dX8_bodySuits_148 : decode cX8_bodySuits 148 = .ok (.aload_n 1, 1) := by decide +kernel
theorem dX8_bodySuits_149 : decode cX8_bodySuits 149 = .ok (.getfield 299, 3) := by decide +kernel
theorem dX8_bodySuits_152 : decode cX8_bodySuits 152 = .ok (.ifCond .ne 7, 3) := by decide +kernel
theorem dX8_bodySuits_155 : decode cX8_bodySuits 155 = .ok (.iconst 1, 1) := by decide +kernel
theorem dX8_bodySuits_156 : decode cX8_bodySuits 156 = .ok (.goto 4, 3) := by decide +kernel
theorem dX8_bodySuits_159 : decode cX8_bodySuits 159 = .ok (.iconst 0, 1) := by decide +kernel
theorem dX8_bodySuits_160 : decode cX8_bodySuits 160 = .ok (.ireturn, 1) := by decide +kernel
theorem dX8_bodySuits_161 : decode cX8_bodySuits 161 = .ok (.iconst 1, 1) := by decide +kernel
theorem dX8_bodySuits_162 : decode cX8_bodySuits 162 = .ok (.ireturn, 1) := by decide +kernel
theorem dX8_fieldToRead_0 : decode cX8_fieldToRead 0 = .ok (.iload_n 1, 1) := by decide +kernel
theorem dX8_fieldToRead_1 : decode cX8_fieldToRead 1 = .ok (.ifCond .lt 11, 3) := by decide +kernel
theorem dX8_fieldToRead_4 : decode cX8_fieldToRead 4 = .ok (.iload_n 1, 1) := by decide +kernel
theorem dX8_fieldToRead_5 : decode cX8_fieldToRead 5 = .ok (.aload_n 0, 1) := by decide +kernel
theorem dX8_fieldToRead_6 : decode cX8_fieldToRead 6 = .ok (.getfield 25, 3) := by decide +kernel
theorem dX8_fieldToRead_9 : decode cX8_fieldToRead 9 = .ok (.if_icmp .lt 5, 3) := by decide +kernel
theorem dX8_fieldToRead_12 : decode cX8_fieldToRead 12 = .ok (.aconst_null, 1) := by decide +kernel
theorem dX8_fieldToRead_13 : decode cX8_fieldToRead 13 = .ok (.areturn, 1) := by decide +kernel
theorem dX8_addMember_0 : decode cX8_addMember 0 = .ok (.aload_n 0, 1) := by decide +kernel
theorem dX8_addMember_1 : decode cX8_addMember 1 = .ok (.getfield 21, 3) := by decide +kernel
theorem dX8_addMember_4 : decode cX8_addMember 4 = .ok (.aload_n 0, 1) := by decide +kernel
theorem dX8_addMember_5 : decode cX8_addMember 5 = .ok (.getfield 25, 3) := by decide +kernel
theorem dX8_addMember_8 : decode cX8_addMember 8 = .ok (.aload_n 1, 1) := by decide +kernel
theorem dX8_addMember_9 : decode cX8_addMember 9 = .ok (.aastore, 1) := by decide +kernel
theorem dX8_addMember_10 : decode cX8_addMember 10 = .ok (.aload_n 0, 1) := by decide +kernel
theorem dX8_addMember_11 : decode cX8_addMember 11 = .ok (.dup, 1) := by decide +kernel
theorem dX8_addMember_12 : decode cX8_addMember 12 = .ok (.getfield 25, 3) := by decide +kernel
theorem dX8_addMember_15 : decode cX8_addMember 15 = .ok (.iconst 1, 1) := by decide +kernel
theorem dX8_addMember_16 : decode cX8_addMember 16 = .ok (.iadd, 1) := by decide +kernel
theorem dX8_addMember_17 : decode cX8_addMember 17 = .ok (.putfield 25, 3) := by decide +kernel
theorem dX8_addMember_20 : decode cX8_addMember 20 = .ok (.aload_n 1, 1) := by decide +kernel
theorem dX8_addMember_21 : decode cX8_addMember 21 = .ok (.getfield 175, 3) := by decide +kernel
theorem dX8_addMember_24 : decode cX8_addMember 24 = .ok (.dup, 1) := by decide +kernel
theorem dX8_addMember_25 : decode cX8_addMember 25 = .ok (.getfield 270, 3) := by decide +kernel
theorem dX8_addMember_28 : decode cX8_addMember 28 = .ok (.iconst 1, 1) := by decide +kernel
theorem dX8_addMember_29 : decode cX8_addMember 29 = .ok (.iadd, 1) := by decide +kernel
theorem dX8_addMember_30 : decode cX8_addMember 30 = .ok (.putfield 270, 3) := by decide +kernel
theorem dX8_addMember_33 : decode cX8_addMember 33 = .ok (.aload_n 0, 1) := by decide +kernel
theorem dX8_addMember_34 : decode cX8_addMember 34 = .ok (.getfield 25, 3) := by decide +kernel
theorem dX8_addMember_37 : decode cX8_addMember 37 = .ok (.iconst 1, 1) := by decide +kernel
theorem dX8_addMember_38 : decode cX8_addMember 38 = .ok (.isub, 1) := by decide +kernel
theorem dX8_addMember_39 : decode cX8_addMember 39 = .ok (.ireturn, 1) := by decide +kernel
theorem dX8_ownField_0 : decode cX8_ownField 0 = .ok (.iconst 0, 1) := by decide +kernel
theorem dX8_ownField_1 : decode cX8_ownField 1 = .ok (.istore_n 3, 1) := by decide +kernel
theorem dX8_ownField_2 : decode cX8_ownField 2 = .ok (.iload_n 3, 1) := by decide +kernel
theorem dX8_ownField_3 : decode cX8_ownField 3 = .ok (.aload_n 0, 1) := by decide +kernel
theorem dX8_ownField_4 : decode cX8_ownField 4 = .ok (.getfield 25, 3) := by decide +kernel
theorem dX8_ownField_7 : decode cX8_ownField 7 = .ok (.if_icmp .ge 52, 3) := by decide +kernel
theorem dX8_ownField_59 : decode cX8_ownField 59 = .ok (.iconst (-1), 1) := by decide +kernel
theorem dX8_ownField_60 : decode cX8_ownField 60 = .ok (.ireturn, 1) := by decide +kernel
theorem dX8_ownMethod_0 : decode cX8_ownMethod 0 = .ok (.iconst 0, 1) := by decide +kernel
theorem dX8_ownMethod_1 : decode cX8_ownMethod 1 = .ok (.istore_n 3, 1) := by decide +kernel
theorem dX8_ownMethod_2 : decode cX8_ownMethod 2 = .ok (.iload_n 3, 1) := by decide +kernel
theorem dX8_ownMethod_3 : decode cX8_ownMethod 3 = .ok (.aload_n 0, 1) := by decide +kernel
theorem dX8_ownMethod_4 : decode cX8_ownMethod 4 = .ok (.getfield 25, 3) := by decide +kernel
theorem dX8_ownMethod_7 : decode cX8_ownMethod 7 = .ok (.if_icmp .ge 55, 3) := by decide +kernel
theorem dX8_ownMethod_62 : decode cX8_ownMethod 62 = .ok (.iconst (-1), 1) := by decide +kernel
theorem dX8_ownMethod_63 : decode cX8_ownMethod 63 = .ok (.ireturn, 1) := by decide +kernel
theorem dX8_visibleField_0 : decode cX8_visibleField 0 = .ok (.aload_n 1, 1) := by decide +kernel
theorem dX8_visibleField_1 : decode cX8_visibleField 1 = .ok (.astore_n 3, 1) := by decide +kernel
theorem dX8_visibleField_2 : decode cX8_visibleField 2 = .ok (.aload_n 3, 1) := by decide +kernel
theorem dX8_visibleField_3 : decode cX8_visibleField 3 = .ok (.ifnull 41, 3) := by decide +kernel
theorem dX8_visibleField_6 : decode cX8_visibleField 6 = .ok (.aload_n 0, 1) := by decide +kernel
theorem dX8_visibleField_7 : decode cX8_visibleField 7 = .ok (.aload_n 3, 1) := by decide +kernel
theorem dX8_visibleField_8 : decode cX8_visibleField 8 = .ok (.iload_n 2, 1) := by decide +kernel
theorem dX8_visibleField_9 : decode cX8_visibleField 9 = .ok (.invokevirtual 105, 3) := by decide +kernel
theorem dX8_visibleField_12 : decode cX8_visibleField 12 = .ok (.istore 4, 2) := by decide +kernel
theorem dX8_visibleField_14 : decode cX8_visibleField 14 = .ok (.iload 4, 2) := by decide +kernel
theorem dX8_visibleField_16 : decode cX8_visibleField 16 = .ok (.iconst (-1), 1) := by decide +kernel
theorem dX8_visibleField_17 : decode cX8_visibleField 17 = .ok (.if_icmp .eq 19, 3) := by decide +kernel
theorem dX8_visibleField_36 : decode cX8_visibleField 36 = .ok (.aload_n 3, 1) := by decide +kernel
theorem dX8_visibleField_37 : decode cX8_visibleField 37 = .ok (.getfield 264, 3) := by decide +kernel
theorem dX8_visibleField_40 : decode cX8_visibleField 40 = .ok (.astore_n 3, 1) := by decide +kernel
theorem dX8_visibleField_41 : decode cX8_visibleField 41 = .ok (.goto (-39), 3) := by decide +kernel
theorem dX8_visibleField_44 : decode cX8_visibleField 44 = .ok (.iconst (-1), 1) := by decide +kernel
theorem dX8_visibleField_45 : decode cX8_visibleField 45 = .ok (.ireturn, 1) := by decide +kernel
theorem dX8_visibleMethod_0 : decode cX8_visibleMethod 0 = .ok (.aload_n 0, 1) := by decide +kernel
theorem dX8_visibleMethod_1 : decode cX8_visibleMethod 1 = .ok (.aload_n 1, 1) := by decide +kernel
theorem dX8_visibleMethod_2 : decode cX8_visibleMethod 2 = .ok (.aload_n 2, 1) := by decide +kernel
theorem dX8_visibleMethod_3 : decode cX8_visibleMethod 3 = .ok (.invokevirtual 336, 3) := by decide +kernel
theorem dX8_visibleMethod_6 : decode cX8_visibleMethod 6 = .ok (.istore_n 3, 1) := by decide +kernel
theorem dX8_visibleMethod_7 : decode cX8_visibleMethod 7 = .ok (.aload_n 1, 1) := by decide +kernel
theorem dX8_visibleMethod_8 : decode cX8_visibleMethod 8 = .ok (.astore 4, 2) := by decide +kernel
theorem dX8_visibleMethod_10 : decode cX8_visibleMethod 10 = .ok (.aload 4, 2) := by decide +kernel
theorem dX8_visibleMethod_12 : decode cX8_visibleMethod 12 = .ok (.ifnull 29, 3) := by decide +kernel
theorem dX8_visibleMethod_15 : decode cX8_visibleMethod 15 = .ok (.iload_n 3, 1) := by decide +kernel
theorem dX8_visibleMethod_16 : decode cX8_visibleMethod 16 = .ok (.iconst (-1), 1) := by decide +kernel
theorem dX8_visibleMethod_17 : decode cX8_visibleMethod 17 = .ok (.if_icmp .ne 24, 3) := by decide +kernel
theorem dX8_visibleMethod_20 : decode cX8_visibleMethod 20 = .ok (.aload_n 0, 1) := by decide +kernel
theorem dX8_visibleMethod_21 : decode cX8_visibleMethod 21 = .ok (.aload 4, 2) := by decide +kernel
theorem dX8_visibleMethod_23 : decode cX8_visibleMethod 23 = .ok (.getfield 267, 3) := by decide +kernel
theorem dX8_visibleMethod_26 : decode cX8_visibleMethod 26 = .ok (.aload_n 2, 1) := by decide +kernel
theorem dX8_visibleMethod_27 : decode cX8_visibleMethod 27 = .ok (.invokevirtual 336, 3) := by decide +kernel
theorem dX8_visibleMethod_30 : decode cX8_visibleMethod 30 = .ok (.istore_n 3, 1) := by decide +kernel
theorem dX8_visibleMethod_31 : decode cX8_visibleMethod 31 = .ok (.aload 4, 2) := by decide +kernel
theorem dX8_visibleMethod_33 : decode cX8_visibleMethod 33 = .ok (.getfield 264, 3) := by decide +kernel
theorem dX8_visibleMethod_36 : decode cX8_visibleMethod 36 = .ok (.astore 4, 2) := by decide +kernel
theorem dX8_visibleMethod_38 : decode cX8_visibleMethod 38 = .ok (.goto (-28), 3) := by decide +kernel
theorem dX8_visibleMethod_41 : decode cX8_visibleMethod 41 = .ok (.iload_n 3, 1) := by decide +kernel
theorem dX8_visibleMethod_42 : decode cX8_visibleMethod 42 = .ok (.ireturn, 1) := by decide +kernel
theorem dX8_visibleMethodUpward_0 : decode cX8_visibleMethodUpward 0 = .ok (.aload_n 1, 1) := by decide +kernel
theorem dX8_visibleMethodUpward_1 : decode cX8_visibleMethodUpward 1 = .ok (.astore_n 3, 1) := by decide +kernel
theorem dX8_visibleMethodUpward_2 : decode cX8_visibleMethodUpward 2 = .ok (.aload_n 3, 1) := by decide +kernel
theorem dX8_visibleMethodUpward_3 : decode cX8_visibleMethodUpward 3 = .ok (.ifnull 41, 3) := by decide +kernel
theorem dX8_visibleMethodUpward_6 : decode cX8_visibleMethodUpward 6 = .ok (.aload_n 0, 1) := by decide +kernel
theorem dX8_visibleMethodUpward_7 : decode cX8_visibleMethodUpward 7 = .ok (.aload_n 3, 1) := by decide +kernel
theorem dX8_visibleMethodUpward_8 : decode cX8_visibleMethodUpward 8 = .ok (.aload_n 2, 1) := by decide +kernel
theorem dX8_visibleMethodUpward_9 : decode cX8_visibleMethodUpward 9 = .ok (.invokevirtual 154, 3) := by decide +kernel
theorem dX8_visibleMethodUpward_12 : decode cX8_visibleMethodUpward 12 = .ok (.istore 4, 2) := by decide +kernel
theorem dX8_visibleMethodUpward_14 : decode cX8_visibleMethodUpward 14 = .ok (.iload 4, 2) := by decide +kernel
theorem dX8_visibleMethodUpward_16 : decode cX8_visibleMethodUpward 16 = .ok (.iconst (-1), 1) := by decide +kernel
theorem dX8_visibleMethodUpward_17 : decode cX8_visibleMethodUpward 17 = .ok (.if_icmp .eq 19, 3) := by decide +kernel
theorem dX8_visibleMethodUpward_36 : decode cX8_visibleMethodUpward 36 = .ok (.aload_n 3, 1) := by decide +kernel
theorem dX8_visibleMethodUpward_37 : decode cX8_visibleMethodUpward 37 = .ok (.getfield 264, 3) := by decide +kernel
theorem dX8_visibleMethodUpward_40 : decode cX8_visibleMethodUpward 40 = .ok (.astore_n 3, 1) := by decide +kernel
theorem dX8_visibleMethodUpward_41 : decode cX8_visibleMethodUpward 41 = .ok (.goto (-39), 3) := by decide +kernel
theorem dX8_visibleMethodUpward_44 : decode cX8_visibleMethodUpward 44 = .ok (.iconst (-1), 1) := by decide +kernel
theorem dX8_visibleMethodUpward_45 : decode cX8_visibleMethodUpward 45 = .ok (.ireturn, 1) := by decide +kernel
theorem dX8_addHandle_0 : decode cX8_addHandle 0 = .ok (.iload_n 1, 1) := by decide +kernel
theorem dX8_addHandle_1 : decode cX8_addHandle 1 = .ok (.iconst (-1), 1) := by decide +kernel
theorem dX8_addHandle_2 : decode cX8_addHandle 2 = .ok (.if_icmp .ne 9, 3) := by decide +kernel
theorem dX8_addHandle_5 : decode cX8_addHandle 5 = .ok (.aload_n 0, 1) := by decide +kernel
theorem dX8_addHandle_6 : decode cX8_addHandle 6 = .ok (.iconst 1, 1) := by decide +kernel
theorem dX8_addHandle_7 : decode cX8_addHandle 7 = .ok (.invokevirtual 183, 3) := by decide +kernel
theorem dX8_addHandle_10 : decode cX8_addHandle 10 = .ok (.ireturn, 1) := by decide +kernel
theorem dX8_failed_0 : decode cX8_failed 0 = .ok (.aload_n 0, 1) := by decide +kernel
theorem dX8_failed_1 : decode cX8_failed 1 = .ok (.iload_n 1, 1) := by decide +kernel
theorem dX8_failed_2 : decode cX8_failed 2 = .ok (.putfield 66, 3) := by decide +kernel
theorem dX8_failed_5 : decode cX8_failed 5 = .ok (.bipush (-10), 2) := by decide +kernel
theorem dX8_failed_7 : decode cX8_failed 7 = .ok (.iload_n 1, 1) := by decide +kernel
theorem dX8_failed_8 : decode cX8_failed 8 = .ok (.isub, 1) := by decide +kernel
theorem dX8_failed_9 : decode cX8_failed 9 = .ok (.ireturn, 1) := by decide +kernel
theorem dX8_startFailure_0 : decode cX8_startFailure 0 = .ok (.iconst 0, 1) := by decide +kernel
theorem dX8_startFailure_1 : decode cX8_startFailure 1 = .ok (.istore_n 2, 1) := by decide +kernel
theorem dX8_startFailure_2 : decode cX8_startFailure 2 = .ok (.iconst 0, 1) := by decide +kernel
theorem dX8_startFailure_3 : decode cX8_startFailure 3 = .ok (.istore_n 3, 1) := by decide +kernel
theorem dX8_startFailure_4 : decode cX8_startFailure 4 = .ok (.iload_n 3, 1) := by decide +kernel
theorem dX8_startFailure_5 : decode cX8_startFailure 5 = .ok (.aload_n 0, 1) := by decide +kernel
theorem dX8_startFailure_6 : decode cX8_startFailure 6 = .ok (.getfield 15, 3) := by decide +kernel
theorem dX8_startFailure_9 : decode cX8_startFailure 9 = .ok (.if_icmp .ge 58, 3) := by decide +kernel
theorem dX8_startFailure_12 : decode cX8_startFailure 12 = .ok (.iload_n 3, 1) := by decide +kernel
theorem dX8_startFailure_13 : decode cX8_startFailure 13 = .ok (.aload_n 1, 1) := by decide +kernel
theorem dX8_startFailure_14 : decode cX8_startFailure 14 = .ok (.getfield 180, 3) := by decide +kernel
theorem dX8_startFailure_17 : decode cX8_startFailure 17 = .ok (.if_icmp .gt 50, 3) := by decide +kernel
theorem dX8_startFailure_20 : decode cX8_startFailure 20 = .ok (.aload_n 1, 1) := by decide +kernel
theorem dX8_startFailure_21 : decode cX8_startFailure 21 = .ok (.aload_n 0, 1) := by decide +kernel
theorem dX8_startFailure_22 : decode cX8_startFailure 22 = .ok (.getfield 11, 3) := by decide +kernel
theorem dX8_startFailure_25 : decode cX8_startFailure 25 = .ok (.iload_n 3, 1) := by decide +kernel
theorem dX8_startFailure_26 : decode cX8_startFailure 26 = .ok (.aaload, 1) := by decide +kernel
theorem dX8_startFailure_27 : decode cX8_startFailure 27 = .ok (.invokevirtual 342, 3) := by decide +kernel
theorem dX8_startFailure_30 : decode cX8_startFailure 30 = .ok (.ifCond .eq 31, 3) := by decide +kernel
theorem dX8_startFailure_33 : decode cX8_startFailure 33 = .ok (.iload_n 2, 1) := by decide +kernel
theorem dX8_startFailure_34 : decode cX8_startFailure 34 = .ok (.ifCond .eq 16, 3) := by decide +kernel
theorem dX8_startFailure_50 : decode cX8_startFailure 50 = .ok (.aload_n 0, 1) := by decide +kernel
theorem dX8_startFailure_51 : decode cX8_startFailure 51 = .ok (.aload_n 0, 1) := by decide +kernel
theorem dX8_startFailure_52 : decode cX8_startFailure 52 = .ok (.getfield 11, 3) := by decide +kernel
theorem dX8_startFailure_55 : decode cX8_startFailure 55 = .ok (.iload_n 3, 1) := by decide +kernel
theorem dX8_startFailure_56 : decode cX8_startFailure 56 = .ok (.aaload, 1) := by decide +kernel
theorem dX8_startFailure_57 : decode cX8_startFailure 57 = .ok (.invokevirtual 345, 3) := by decide +kernel
theorem dX8_startFailure_60 : decode cX8_startFailure 60 = .ok (.istore_n 2, 1) := by decide +kernel
theorem dX8_startFailure_61 : decode cX8_startFailure 61 = .ok (.iinc 3 1, 3) := by decide +kernel
theorem dX8_startFailure_64 : decode cX8_startFailure 64 = .ok (.goto (-60), 3) := by decide +kernel
theorem dX8_startFailure_67 : decode cX8_startFailure 67 = .ok (.iload_n 2, 1) := by decide +kernel
theorem dX8_startFailure_68 : decode cX8_startFailure 68 = .ok (.ireturn, 1) := by decide +kernel
theorem dX8_startAlone_0 : decode cX8_startAlone 0 = .ok (.aload_n 1, 1) := by decide +kernel
theorem dX8_startAlone_1 : decode cX8_startAlone 1 = .ok (.getfield 92, 3) := by decide +kernel
theorem dX8_startAlone_4 : decode cX8_startAlone 4 = .ok (.iconst 1, 1) := by decide +kernel
theorem dX8_startAlone_5 : decode cX8_startAlone 5 = .ok (.if_icmp .ne 5, 3) := by decide +kernel
theorem dX8_startAlone_10 : decode cX8_startAlone 10 = .ok (.aload_n 1, 1) := by decide +kernel
theorem dX8_startAlone_11 : decode cX8_startAlone 11 = .ok (.getfield 92, 3) := by decide +kernel
theorem dX8_startAlone_14 : decode cX8_startAlone 14 = .ok (.iconst 2, 1) := by decide +kernel
theorem dX8_startAlone_15 : decode cX8_startAlone 15 = .ok (.if_icmp .ne 6, 3) := by decide +kernel
theorem dX8_startAlone_21 : decode cX8_startAlone 21 = .ok (.aload_n 1, 1) := by decide +kernel
theorem dX8_startAlone_22 : decode cX8_startAlone 22 = .ok (.getfield 348, 3) := by decide +kernel
theorem dX8_startAlone_25 : decode cX8_startAlone 25 = .ok (.ifCond .eq 11, 3) := by decide +kernel
theorem dX8_startAlone_36 : decode cX8_startAlone 36 = .ok (.aload_n 1, 1) := by decide +kernel
theorem dX8_startAlone_37 : decode cX8_startAlone 37 = .ok (.iconst 1, 1) := by decide +kernel
theorem dX8_startAlone_38 : decode cX8_startAlone 38 = .ok (.putfield 92, 3) := by decide +kernel
theorem dX8_startAlone_41 : decode cX8_startAlone 41 = .ok (.aload_n 1, 1) := by decide +kernel
theorem dX8_startAlone_42 : decode cX8_startAlone 42 = .ok (.aload_n 0, 1) := by decide +kernel
theorem dX8_startAlone_43 : decode cX8_startAlone 43 = .ok (.getfield 46, 3) := by decide +kernel
theorem dX8_startAlone_46 : decode cX8_startAlone 46 = .ok (.putfield 255, 3) := by decide +kernel
theorem dX8_startAlone_49 : decode cX8_startAlone 49 = .ok (.iconst 0, 1) := by decide +kernel
theorem dX8_startAlone_50 : decode cX8_startAlone 50 = .ok (.istore_n 2, 1) := by decide +kernel
theorem dX8_startAlone_51 : decode cX8_startAlone 51 = .ok (.iload_n 2, 1) := by decide +kernel
theorem dX8_startAlone_52 : decode cX8_startAlone 52 = .ok (.aload_n 1, 1) := by decide +kernel
theorem dX8_startAlone_53 : decode cX8_startAlone 53 = .ok (.getfield 89, 3) := by decide +kernel
theorem dX8_startAlone_56 : decode cX8_startAlone 56 = .ok (.if_icmp .ge 17, 3) := by decide +kernel
theorem dX8_startAlone_73 : decode cX8_startAlone 73 = .ok (.iconst 0, 1) := by decide +kernel
theorem dX8_startAlone_74 : decode cX8_startAlone 74 = .ok (.ireturn, 1) := by decide +kernel
theorem dX8_makeFailure_0 : decode cX8_makeFailure 0 = .ok (.aload_n 1, 1) := by decide +kernel
theorem dX8_makeFailure_1 : decode cX8_makeFailure 1 = .ok (.getfield 86, 3) := by decide +kernel
theorem dX8_makeFailure_4 : decode cX8_makeFailure 4 = .ok (.iconst 1, 1) := by decide +kernel
theorem dX8_makeFailure_5 : decode cX8_makeFailure 5 = .ok (.if_icmp .eq 11, 3) := by decide +kernel
theorem dX8_makeFailure_8 : decode cX8_makeFailure 8 = .ok (.aload_n 1, 1) := by decide +kernel
theorem dX8_makeFailure_9 : decode cX8_makeFailure 9 = .ok (.getfield 86, 3) := by decide +kernel
theorem dX8_makeFailure_12 : decode cX8_makeFailure 12 = .ok (.iconst 2, 1) := by decide +kernel
theorem dX8_makeFailure_13 : decode cX8_makeFailure 13 = .ok (.if_icmp .ne 5, 3) := by decide +kernel
theorem dX8_makeFailure_18 : decode cX8_makeFailure 18 = .ok (.aload_n 1, 1) := by decide +kernel
theorem dX8_makeFailure_19 : decode cX8_makeFailure 19 = .ok (.getfield 86, 3) := by decide +kernel
theorem dX8_makeFailure_22 : decode cX8_makeFailure 22 = .ok (.iconst 3, 1) := by decide +kernel
theorem dX8_makeFailure_23 : decode cX8_makeFailure 23 = .ok (.if_icmp .ne 11, 3) := by decide +kernel
theorem dX8_makeFailure_34 : decode cX8_makeFailure 34 = .ok (.aload_n 1, 1) := by decide +kernel
theorem dX8_makeFailure_35 : decode cX8_makeFailure 35 = .ok (.getfield 86, 3) := by decide +kernel
theorem dX8_makeFailure_38 : decode cX8_makeFailure 38 = .ok (.ifCond .ne 14, 3) := by decide +kernel
theorem dX8_makeFailure_41 : decode cX8_makeFailure 41 = .ok (.aload_n 0, 1) := by decide +kernel
theorem dX8_makeFailure_42 : decode cX8_makeFailure 42 = .ok (.getfield 55, 3) := by decide +kernel
theorem dX8_makeFailure_45 : decode cX8_makeFailure 45 = .ok (.ifCond .ne 7, 3) := by decide +kernel
theorem dX8_makeFailure_48 : decode cX8_makeFailure 48 = .ok (.iconst 1, 1) := by decide +kernel
theorem dX8_makeFailure_49 : decode cX8_makeFailure 49 = .ok (.goto 4, 3) := by decide +kernel
theorem dX8_makeFailure_53 : decode cX8_makeFailure 53 = .ok (.istore_n 2, 1) := by decide +kernel
theorem dX8_makeFailure_54 : decode cX8_makeFailure 54 = .ok (.iload_n 2, 1) := by decide +kernel
theorem dX8_makeFailure_55 : decode cX8_makeFailure 55 = .ok (.ifCond .eq 11, 3) := by decide +kernel
theorem dX8_makeFailure_58 : decode cX8_makeFailure 58 = .ok (.aload_n 0, 1) := by decide +kernel
theorem dX8_makeFailure_59 : decode cX8_makeFailure 59 = .ok (.aload_n 1, 1) := by decide +kernel
theorem dX8_makeFailure_60 : decode cX8_makeFailure 60 = .ok (.invokevirtual 252, 3) := by decide +kernel
theorem dX8_makeFailure_63 : decode cX8_makeFailure 63 = .ok (.goto 4, 3) := by decide +kernel
theorem dX8_makeFailure_67 : decode cX8_makeFailure 67 = .ok (.ireturn, 1) := by decide +kernel
theorem dX8_addThing_0 : decode cX8_addThing 0 = .ok (.aload_n 0, 1) := by decide +kernel
theorem dX8_addThing_1 : decode cX8_addThing 1 = .ok (.getfield 46, 3) := by decide +kernel
theorem dX8_addThing_4 : decode cX8_addThing 4 = .ok (.aload_n 0, 1) := by decide +kernel
theorem dX8_addThing_5 : decode cX8_addThing 5 = .ok (.getfield 42, 3) := by decide +kernel
theorem dX8_addThing_8 : decode cX8_addThing 8 = .ok (.arraylength, 1) := by decide +kernel
theorem dX8_addThing_9 : decode cX8_addThing 9 = .ok (.if_icmp .lt 5, 3) := by decide +kernel
theorem dX8_addThing_14 : decode cX8_addThing 14 = .ok (.aload_n 0, 1) := by decide +kernel
theorem dX8_addThing_15 : decode cX8_addThing 15 = .ok (.getfield 42, 3) := by decide +kernel
theorem dX8_addThing_18 : decode cX8_addThing 18 = .ok (.aload_n 0, 1) := by decide +kernel
theorem dX8_addThing_19 : decode cX8_addThing 19 = .ok (.getfield 46, 3) := by decide +kernel
theorem dX8_addThing_22 : decode cX8_addThing 22 = .ok (.new 40, 3) := by decide +kernel
theorem dX8_addThing_25 : decode cX8_addThing 25 = .ok (.dup, 1) := by decide +kernel
theorem dX8_addThing_26 : decode cX8_addThing 26 = .ok (.aload_n 1, 1) := by decide +kernel
theorem dX8_addThing_27 : decode cX8_addThing 27 = .ok (.aload_n 2, 1) := by decide +kernel
theorem dX8_addThing_28 : decode cX8_addThing 28 = .ok (.iload_n 3, 1) := by decide +kernel
theorem dX8_addThing_29 : decode cX8_addThing 29 = .ok (.aload_n 0, 1) := by decide +kernel
theorem dX8_addThing_30 : decode cX8_addThing 30 = .ok (.invokevirtual 375, 3) := by decide +kernel
theorem dX8_addThing_33 : decode cX8_addThing 33 = .ok (.invokespecial 379, 3) := by decide +kernel
theorem dX8_addThing_36 : decode cX8_addThing 36 = .ok (.aastore, 1) := by decide +kernel
theorem dX8_addThing_37 : decode cX8_addThing 37 = .ok (.aload_n 0, 1) := by decide +kernel
theorem dX8_addThing_38 : decode cX8_addThing 38 = .ok (.dup, 1) := by decide +kernel
theorem dX8_addThing_39 : decode cX8_addThing 39 = .ok (.getfield 46, 3) := by decide +kernel
theorem dX8_addThing_42 : decode cX8_addThing 42 = .ok (.iconst 1, 1) := by decide +kernel
theorem dX8_addThing_43 : decode cX8_addThing 43 = .ok (.iadd, 1) := by decide +kernel
theorem dX8_addThing_44 : decode cX8_addThing 44 = .ok (.putfield 46, 3) := by decide +kernel
theorem dX8_addThing_47 : decode cX8_addThing 47 = .ok (.aload_n 0, 1) := by decide +kernel
theorem dX8_addThing_48 : decode cX8_addThing 48 = .ok (.getfield 46, 3) := by decide +kernel
theorem dX8_addThing_51 : decode cX8_addThing 51 = .ok (.iconst 1, 1) := by decide +kernel
theorem dX8_addThing_52 : decode cX8_addThing 52 = .ok (.isub, 1) := by decide +kernel
theorem dX8_addThing_53 : decode cX8_addThing 53 = .ok (.ireturn, 1) := by decide +kernel
theorem dX8_firstSlots_0 : decode cX8_firstSlots 0 = .ok (.aload_n 0, 1) := by decide +kernel
theorem dX8_firstSlots_1 : decode cX8_firstSlots 1 = .ok (.getfield 28, 3) := by decide +kernel
theorem dX8_firstSlots_4 : decode cX8_firstSlots 4 = .ok (.newarray .long, 2) := by decide +kernel
theorem dX8_firstSlots_6 : decode cX8_firstSlots 6 = .ok (.astore_n 1, 1) := by decide +kernel
theorem dX8_firstSlots_7 : decode cX8_firstSlots 7 = .ok (.iconst 0, 1) := by decide +kernel
theorem dX8_firstSlots_8 : decode cX8_firstSlots 8 = .ok (.istore_n 2, 1) := by decide +kernel
theorem dX8_firstSlots_9 : decode cX8_firstSlots 9 = .ok (.iload_n 2, 1) := by decide +kernel
theorem dX8_firstSlots_10 : decode cX8_firstSlots 10 = .ok (.aload_n 0, 1) := by decide +kernel
theorem dX8_firstSlots_11 : decode cX8_firstSlots 11 = .ok (.getfield 25, 3) := by decide +kernel
theorem dX8_firstSlots_14 : decode cX8_firstSlots 14 = .ok (.if_icmp .ge 57, 3) := by decide +kernel
theorem dX8_firstSlots_71 : decode cX8_firstSlots 71 = .ok (.aload_n 1, 1) := by decide +kernel
theorem dX8_firstSlots_72 : decode cX8_firstSlots 72 = .ok (.areturn, 1) := by decide +kernel
