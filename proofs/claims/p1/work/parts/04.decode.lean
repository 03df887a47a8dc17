theorem dX0_init_0 : decode cX0_init 0 = .ok (.aload_n 0, 1) := by decide +kernel
theorem dX0_init_1 : decode cX0_init 1 = .ok (.invokespecial 3, 3) := by decide +kernel
theorem dX0_init_4 : decode cX0_init 4 = .ok (.aload_n 0, 1) := by decide +kernel
theorem dX0_init_5 : decode cX0_init 5 = .ok (.iconst 0, 1) := by decide +kernel
theorem dX0_init_6 : decode cX0_init 6 = .ok (.putfield 9, 3) := by decide +kernel
theorem dX0_init_9 : decode cX0_init 9 = .ok (.aload_n 0, 1) := by decide +kernel
theorem dX0_init_10 : decode cX0_init 10 = .ok (.iconst 0, 1) := by decide +kernel
theorem dX0_init_11 : decode cX0_init 11 = .ok (.putfield 15, 3) := by decide +kernel
theorem dX0_init_14 : decode cX0_init 14 = .ok (.aload_n 0, 1) := by decide +kernel
theorem dX0_init_15 : decode cX0_init 15 = .ok (.iconst 0, 1) := by decide +kernel
theorem dX0_init_16 : decode cX0_init 16 = .ok (.putfield 18, 3) := by decide +kernel
theorem dX0_init_19 : decode cX0_init 19 = .ok (.aload_n 0, 1) := by decide +kernel
theorem dX0_init_20 : decode cX0_init 20 = .ok (.iconst 0, 1) := by decide +kernel
theorem dX0_init_21 : decode cX0_init 21 = .ok (.putfield 21, 3) := by decide +kernel
theorem dX0_init_24 : decode cX0_init 24 = .ok (.aload_n 0, 1) := by decide +kernel
theorem dX0_init_25 : decode cX0_init 25 = .ok (.iload_n 1, 1) := by decide +kernel
theorem dX0_init_26 : decode cX0_init 26 = .ok (.putfield 24, 3) := by decide +kernel
theorem dX0_init_29 : decode cX0_init 29 = .ok (.aload_n 0, 1) := by decide +kernel
theorem dX0_init_30 : decode cX0_init 30 = .ok (.aload_n 2, 1) := by decide +kernel
theorem dX0_init_31 : decode cX0_init 31 = .ok (.putfield 27, 3) := by decide +kernel
theorem dX0_init_34 : decode cX0_init 34 = .ok (.aload_n 0, 1) := by decide +kernel
theorem dX0_init_35 : decode cX0_init 35 = .ok (.iload_n 3, 1) := by decide +kernel
theorem dX0_init_36 : decode cX0_init 36 = .ok (.putfield 31, 3) := by decide +kernel
theorem dX0_init_39 : decode cX0_init 39 = .ok (.aload_n 0, 1) := by decide +kernel
theorem dX0_init_40 : decode cX0_init 40 = .ok (.aload 4, 2) := by decide +kernel
theorem dX0_init_42 : decode cX0_init 42 = .ok (.putfield 34, 3) := by decide +kernel
theorem dX0_init_45 : decode cX0_init 45 = .ok (.aload_n 0, 1) := by decide +kernel
theorem dX0_init_46 : decode cX0_init 46 = .ok (.iload 5, 2) := by decide +kernel
theorem dX0_init_48 : decode cX0_init 48 = .ok (.putfield 37, 3) := by decide +kernel
theorem dX0_init_51 : decode cX0_init 51 = .ok (.aload_n 0, 1) := by decide +kernel
theorem dX0_init_52 : decode cX0_init 52 = .ok (.iload 6, 2) := by decide +kernel
theorem dX0_init_54 : decode cX0_init 54 = .ok (.putfield 41, 3) := by decide +kernel
theorem dX0_init_57 : decode cX0_init 57 = .ok (.iconst 1, 1) := by decide +kernel
theorem dX0_init_58 : decode cX0_init 58 = .ok (.iload_n 1, 1) := by decide +kernel
theorem dX0_init_59 : decode cX0_init 59 = .ok (.ishl, 1) := by decide +kernel
theorem dX0_init_60 : decode cX0_init 60 = .ok (.istore 7, 2) := by decide +kernel
theorem dX0_init_62 : decode cX0_init 62 = .ok (.aload_n 0, 1) := by decide +kernel
theorem dX0_init_63 : decode cX0_init 63 = .ok (.iload 7, 2) := by decide +kernel
theorem dX0_init_65 : decode cX0_init 65 = .ok (.aload_n 2, 1) := by decide +kernel
theorem dX0_init_66 : decode cX0_init 66 = .ok (.ifnonnull 7, 3) := by decide +kernel
theorem dX0_init_69 : decode cX0_init 69 = .ok (.iconst 0, 1) := by decide +kernel
theorem dX0_init_70 : decode cX0_init 70 = .ok (.goto 7, 3) := by decide +kernel
theorem dX0_init_73 : decode cX0_init 73 = .ok (.aload_n 2, 1) := by decide +kernel
theorem dX0_init_74 : decode cX0_init 74 = .ok (.getfield 44, 3) := by decide +kernel
theorem dX0_init_77 : decode cX0_init 77 = .ok (.ior, 1) := by decide +kernel
theorem dX0_init_78 : decode cX0_init 78 = .ok (.putfield 44, 3) := by decide +kernel
theorem dX0_init_81 : decode cX0_init 81 = .ok (.aload_n 0, 1) := by decide +kernel
theorem dX0_init_82 : decode cX0_init 82 = .ok (.iload 7, 2) := by decide +kernel
theorem dX0_init_84 : decode cX0_init 84 = .ok (.aload_n 2, 1) := by decide +kernel
theorem dX0_init_85 : decode cX0_init 85 = .ok (.ifnonnull 7, 3) := by decide +kernel
theorem dX0_init_88 : decode cX0_init 88 = .ok (.iconst 0, 1) := by decide +kernel
theorem dX0_init_89 : decode cX0_init 89 = .ok (.goto 7, 3) := by decide +kernel
theorem dX0_init_92 : decode cX0_init 92 = .ok (.aload_n 2, 1) := by decide +kernel
theorem dX0_init_93 : decode cX0_init 93 = .ok (.getfield 47, 3) := by decide +kernel
theorem dX0_init_96 : decode cX0_init 96 = .ok (.ior, 1) := by decide +kernel
theorem dX0_init_97 : decode cX0_init 97 = .ok (.aload 4, 2) := by decide +kernel
theorem dX0_init_99 : decode cX0_init 99 = .ok (.ifnonnull 7, 3) := by decide +kernel
theorem dX0_init_102 : decode cX0_init 102 = .ok (.iconst 0, 1) := by decide +kernel
theorem dX0_init_103 : decode cX0_init 103 = .ok (.goto 8, 3) := by decide +kernel
theorem dX0_init_111 : decode cX0_init 111 = .ok (.ior, 1) := by decide +kernel
theorem dX0_init_112 : decode cX0_init 112 = .ok (.putfield 47, 3) := by decide +kernel
theorem dX0_init_115 : decode cX0_init 115 = .ok (.return_, 1) := by decide +kernel
theorem dX1_init_0 : decode cX1_init 0 = .ok (.aload_n 0, 1) := by decide +kernel
theorem dX1_init_1 : decode cX1_init 1 = .ok (.aload_n 1, 1) := by decide +kernel
theorem dX1_init_2 : decode cX1_init 2 = .ok (.iload 4, 2) := by decide +kernel
theorem dX1_init_4 : decode cX1_init 4 = .ok (.iload 6, 2) := by decide +kernel
theorem dX1_init_6 : decode cX1_init 6 = .ok (.invokespecial 3, 3) := by decide +kernel
theorem dX1_init_9 : decode cX1_init 9 = .ok (.aload_n 0, 1) := by decide +kernel
theorem dX1_init_10 : decode cX1_init 10 = .ok (.iload_n 2, 1) := by decide +kernel
theorem dX1_init_11 : decode cX1_init 11 = .ok (.putfield 9, 3) := by decide +kernel
theorem dX1_init_14 : decode cX1_init 14 = .ok (.aload_n 0, 1) := by decide +kernel
theorem dX1_init_15 : decode cX1_init 15 = .ok (.iload_n 3, 1) := by decide +kernel
theorem dX1_init_16 : decode cX1_init 16 = .ok (.putfield 15, 3) := by decide +kernel
theorem dX1_init_19 : decode cX1_init 19 = .ok (.aload_n 0, 1) := by decide +kernel
theorem dX1_init_20 : decode cX1_init 20 = .ok (.iload 5, 2) := by decide +kernel
theorem dX1_init_22 : decode cX1_init 22 = .ok (.putfield 18, 3) := by decide +kernel
theorem dX1_init_25 : decode cX1_init 25 = .ok (.aload_n 0, 1) := by decide +kernel
theorem dX1_init_26 : decode cX1_init 26 = .ok (.iload 7, 2) := by decide +kernel
theorem dX1_init_28 : decode cX1_init 28 = .ok (.putfield 22, 3) := by decide +kernel
theorem dX1_init_31 : decode cX1_init 31 = .ok (.aload_n 0, 1) := by decide +kernel
theorem dX1_init_32 : decode cX1_init 32 = .ok (.iload_n 3, 1) := by decide +kernel
theorem dX1_init_33 : decode cX1_init 33 = .ok (.ifCond .lt 9, 3) := by decide +kernel
theorem dX1_init_36 : decode cX1_init 36 = .ok (.ldc2_w 25, 3) := by decide +kernel
theorem dX1_init_39 : decode cX1_init 39 = .ok (.goto 4, 3) := by decide +kernel
theorem dX1_init_42 : decode cX1_init 42 = .ok (.lconst 0, 1) := by decide +kernel
theorem dX1_init_43 : decode cX1_init 43 = .ok (.putfield 27, 3) := by decide +kernel
theorem dX1_init_46 : decode cX1_init 46 = .ok (.aload_n 0, 1) := by decide +kernel
theorem dX1_init_47 : decode cX1_init 47 = .ok (.aload_n 0, 1) := by decide +kernel
theorem dX1_init_48 : decode cX1_init 48 = .ok (.getfield 27, 3) := by decide +kernel
theorem dX1_init_51 : decode cX1_init 51 = .ok (.putfield 31, 3) := by decide +kernel
theorem dX1_init_54 : decode cX1_init 54 = .ok (.return_, 1) := by decide +kernel
theorem dX3_init_0 : decode cX3_init 0 = .ok (.aload_n 0, 1) := by decide +kernel
theorem dX3_init_1 : decode cX3_init 1 = .ok (.invokespecial 1, 3) := by decide +kernel
theorem dX3_init_4 : decode cX3_init 4 = .ok (.aload_n 0, 1) := by decide +kernel
theorem dX3_init_5 : decode cX3_init 5 = .ok (.aload_n 1, 1) := by decide +kernel
theorem dX3_init_6 : decode cX3_init 6 = .ok (.putfield 7, 3) := by decide +kernel
theorem dX3_init_9 : decode cX3_init 9 = .ok (.aload_n 0, 1) := by decide +kernel
theorem dX3_init_10 : decode cX3_init 10 = .ok (.iload_n 2, 1) := by decide +kernel
theorem dX3_init_11 : decode cX3_init 11 = .ok (.putfield 13, 3) := by decide +kernel
theorem dX3_init_14 : decode cX3_init 14 = .ok (.aload_n 0, 1) := by decide +kernel
theorem dX3_init_15 : decode cX3_init 15 = .ok (.iload_n 3, 1) := by decide +kernel
theorem dX3_init_16 : decode cX3_init 16 = .ok (.putfield 17, 3) := by decide +kernel
theorem dX3_init_19 : decode cX3_init 19 = .ok (.return_, 1) := by decide +kernel
theorem dX5_init_0 : decode cX5_init 0 = .ok (.aload_n 0, 1) := by decide +kernel
theorem dX5_init_1 : decode cX5_init 1 = .ok (.invokespecial 3, 3) := by decide +kernel
theorem dX5_init_4 : decode cX5_init 4 = .ok (.aload_n 0, 1) := by decide +kernel
theorem dX5_init_5 : decode cX5_init 5 = .ok (.iload_n 1, 1) := by decide +kernel
theorem dX5_init_6 : decode cX5_init 6 = .ok (.putfield 9, 3) := by decide +kernel
theorem dX5_init_9 : decode cX5_init 9 = .ok (.aload_n 0, 1) := by decide +kernel
theorem dX5_init_10 : decode cX5_init 10 = .ok (.iload_n 2, 1) := by decide +kernel
theorem dX5_init_11 : decode cX5_init 11 = .ok (.putfield 15, 3) := by decide +kernel
theorem dX5_init_14 : decode cX5_init 14 = .ok (.aload_n 0, 1) := by decide +kernel
theorem dX5_init_15 : decode cX5_init 15 = .ok (.iload_n 2, 1) := by decide +kernel
theorem dX5_init_16 : decode cX5_init 16 = .ok (.ifCond .le 7, 3) := by decide +kernel
theorem dX5_init_19 : decode cX5_init 19 = .ok (.iload_n 3, 1) := by decide +kernel
theorem dX5_init_20 : decode cX5_init 20 = .ok (.goto 4, 3) := by decide +kernel
theorem dX5_init_23 : decode cX5_init 23 = .ok (.iconst (-1), 1) := by decide +kernel
theorem dX5_init_24 : decode cX5_init 24 = .ok (.putfield 18, 3) := by decide +kernel
theorem dX5_init_27 : decode cX5_init 27 = .ok (.aload_n 0, 1) := by decide +kernel
theorem dX5_init_28 : decode cX5_init 28 = .ok (.iload_n 2, 1) := by decide +kernel
theorem dX5_init_29 : decode cX5_init 29 = .ok (.iconst 1, 1) := by decide +kernel
theorem dX5_init_30 : decode cX5_init 30 = .ok (.if_icmp .le 8, 3) := by decide +kernel
theorem dX5_init_33 : decode cX5_init 33 = .ok (.iload 4, 2) := by decide +kernel
theorem dX5_init_35 : decode cX5_init 35 = .ok (.goto 4, 3) := by decide +kernel
theorem dX5_init_38 : decode cX5_init 38 = .ok (.iconst (-1), 1) := by decide +kernel
theorem dX5_init_39 : decode cX5_init 39 = .ok (.putfield 21, 3) := by decide +kernel
theorem dX5_init_42 : decode cX5_init 42 = .ok (.return_, 1) := by decide +kernel
theorem dX5_isOutside_0 : decode cX5_isOutside 0 = .ok (.aload_n 0, 1) := by decide +kernel
theorem dX5_isOutside_1 : decode cX5_isOutside 1 = .ok (.getfield 9, 3) := by decide +kernel
theorem dX5_isOutside_4 : decode cX5_isOutside 4 = .ok (.invokestatic 24, 3) := by decide +kernel
theorem dX5_isOutside_7 : decode cX5_isOutside 7 = .ok (.ifCond .ne 36, 3) := by decide +kernel
theorem dX5_isOutside_10 : decode cX5_isOutside 10 = .ok (.aload_n 0, 1) := by decide +kernel
theorem dX5_isOutside_11 : decode cX5_isOutside 11 = .ok (.getfield 15, 3) := by decide +kernel
theorem dX5_isOutside_14 : decode cX5_isOutside 14 = .ok (.ifCond .lt 29, 3) := by decide +kernel
theorem dX5_isOutside_17 : decode cX5_isOutside 17 = .ok (.aload_n 0, 1) := by decide +kernel
theorem dX5_isOutside_18 : decode cX5_isOutside 18 = .ok (.getfield 15, 3) := by decide +kernel
theorem dX5_isOutside_21 : decode cX5_isOutside 21 = .ok (.iconst 2, 1) := by decide +kernel
theorem dX5_isOutside_22 : decode cX5_isOutside 22 = .ok (.if_icmp .gt 21, 3) := by decide +kernel
theorem dX5_isOutside_25 : decode cX5_isOutside 25 = .ok (.aload_n 0, 1) := by decide +kernel
theorem dX5_isOutside_26 : decode cX5_isOutside 26 = .ok (.getfield 18, 3) := by decide +kernel
theorem dX5_isOutside_29 : decode cX5_isOutside 29 = .ok (.bipush (-2), 2) := by decide +kernel
theorem dX5_isOutside_31 : decode cX5_isOutside 31 = .ok (.if_icmp .lt 12, 3) := by decide +kernel
theorem dX5_isOutside_34 : decode cX5_isOutside 34 = .ok (.aload_n 0, 1) := by decide +kernel
theorem dX5_isOutside_35 : decode cX5_isOutside 35 = .ok (.getfield 21, 3) := by decide +kernel
theorem dX5_isOutside_38 : decode cX5_isOutside 38 = .ok (.bipush (-2), 2) := by decide +kernel
theorem dX5_isOutside_40 : decode cX5_isOutside 40 = .ok (.if_icmp .ge 7, 3) := by decide +kernel
theorem dX5_isOutside_43 : decode cX5_isOutside 43 = .ok (.iconst 1, 1) := by decide +kernel
theorem dX5_isOutside_44 : decode cX5_isOutside 44 = .ok (.goto 4, 3) := by decide +kernel
theorem dX5_isOutside_47 : decode cX5_isOutside 47 = .ok (.iconst 0, 1) := by decide +kernel
theorem dX5_isOutside_48 : decode cX5_isOutside 48 = .ok (.ireturn, 1) := by decide +kernel
theorem dX5_startsWithClass_0 : decode cX5_startsWithClass 0 = .ok (.aload_n 0, 1) := by decide +kernel
theorem dX5_startsWithClass_1 : decode cX5_startsWithClass 1 = .ok (.getfield 15, 3) := by decide +kernel
theorem dX5_startsWithClass_4 : decode cX5_startsWithClass 4 = .ok (.ifCond .le 14, 3) := by decide +kernel
theorem dX5_startsWithClass_7 : decode cX5_startsWithClass 7 = .ok (.aload_n 0, 1) := by decide +kernel
theorem dX5_startsWithClass_8 : decode cX5_startsWithClass 8 = .ok (.getfield 18, 3) := by decide +kernel
theorem dX5_startsWithClass_11 : decode cX5_startsWithClass 11 = .ok (.ifCond .lt 7, 3) := by decide +kernel
theorem dX5_startsWithClass_14 : decode cX5_startsWithClass 14 = .ok (.iconst 1, 1) := by decide +kernel
theorem dX5_startsWithClass_15 : decode cX5_startsWithClass 15 = .ok (.goto 4, 3) := by decide +kernel
theorem dX5_startsWithClass_18 : decode cX5_startsWithClass 18 = .ok (.iconst 0, 1) := by decide +kernel
theorem dX5_startsWithClass_19 : decode cX5_startsWithClass 19 = .ok (.ireturn, 1) := by decide +kernel
theorem dX5_startsWithInt_0 : decode cX5_startsWithInt 0 = .ok (.aload_n 0, 1) := by decide +kernel
theorem dX5_startsWithInt_1 : decode cX5_startsWithInt 1 = .ok (.getfield 15, 3) := by decide +kernel
theorem dX5_startsWithInt_4 : decode cX5_startsWithInt 4 = .ok (.ifCond .le 15, 3) := by decide +kernel
theorem dX5_startsWithInt_7 : decode cX5_startsWithInt 7 = .ok (.aload_n 0, 1) := by decide +kernel
theorem dX5_startsWithInt_8 : decode cX5_startsWithInt 8 = .ok (.getfield 18, 3) := by decide +kernel
theorem dX5_startsWithInt_11 : decode cX5_startsWithInt 11 = .ok (.iconst (-1), 1) := by decide +kernel
theorem dX5_startsWithInt_12 : decode cX5_startsWithInt 12 = .ok (.if_icmp .ne 7, 3) := by decide +kernel
theorem dX5_startsWithInt_15 : decode cX5_startsWithInt 15 = .ok (.iconst 1, 1) := by decide +kernel
theorem dX5_startsWithInt_16 : decode cX5_startsWithInt 16 = .ok (.goto 4, 3) := by decide +kernel
theorem dX5_startsWithInt_19 : decode cX5_startsWithInt 19 = .ok (.iconst 0, 1) := by decide +kernel
theorem dX5_startsWithInt_20 : decode cX5_startsWithInt 20 = .ok (.ireturn, 1) := by decide +kernel
theorem dX7_init_0 : decode cX7_init 0 = .ok (.aload_n 0, 1) := by decide +kernel
theorem dX7_init_1 : decode cX7_init 1 = .ok (.invokespecial 3, 3) := by decide +kernel
theorem dX7_init_4 : decode cX7_init 4 = .ok (.aload_n 0, 1) := by decide +kernel
theorem dX7_init_5 : decode cX7_init 5 = .ok (.iconst 0, 1) := by decide +kernel
theorem dX7_init_6 : decode cX7_init 6 = .ok (.putfield 9, 3) := by decide +kernel
theorem dX7_init_9 : decode cX7_init 9 = .ok (.aload_n 0, 1) := by decide +kernel
theorem dX7_init_10 : decode cX7_init 10 = .ok (.lconst 0, 1) := by decide +kernel
theorem dX7_init_11 : decode cX7_init 11 = .ok (.putfield 15, 3) := by decide +kernel
theorem dX7_init_14 : decode cX7_init 14 = .ok (.return_, 1) := by decide +kernel
theorem dX8_init_0 : decode cX8_init 0 = .ok (.aload_n 0, 1) := by decide +kernel
theorem dX8_init_1 : decode cX8_init 1 = .ok (.invokespecial 1, 3) := by decide +kernel
theorem dX8_init_4 : decode cX8_init 4 = .ok (.aload_n 0, 1) := by decide +kernel
theorem dX8_init_5 : decode cX8_init 5 = .ok (.bipush 16, 2) := by decide +kernel
theorem dX8_init_7 : decode cX8_init 7 = .ok (.anewarray 9, 3) := by decide +kernel
theorem dX8_init_10 : decode cX8_init 10 = .ok (.putfield 11, 3) := by decide +kernel
theorem dX8_init_13 : decode cX8_init 13 = .ok (.aload_n 0, 1) := by decide +kernel
theorem dX8_init_14 : decode cX8_init 14 = .ok (.iconst 1, 1) := by decide +kernel
theorem dX8_init_15 : decode cX8_init 15 = .ok (.putfield 15, 3) := by decide +kernel
theorem dX8_init_18 : decode cX8_init 18 = .ok (.aload_n 0, 1) := by decide +kernel
theorem dX8_init_19 : decode cX8_init 19 = .ok (.bipush 40, 2) := by decide +kernel
theorem dX8_init_21 : decode cX8_init 21 = .ok (.anewarray 19, 3) := by decide +kernel
theorem dX8_init_24 : decode cX8_init 24 = .ok (.putfield 21, 3) := by decide +kernel
theorem dX8_init_27 : decode cX8_init 27 = .ok (.aload_n 0, 1) := by decide +kernel
theorem dX8_init_28 : decode cX8_init 28 = .ok (.iconst 0, 1) := by decide +kernel
theorem dX8_init_29 : decode cX8_init 29 = .ok (.putfield 25, 3) := by decide +kernel
theorem dX8_init_32 : decode cX8_init 32 = .ok (.aload_n 0, 1) := by decide +kernel
theorem dX8_init_33 : decode cX8_init 33 = .ok (.iconst 0, 1) := by decide +kernel
theorem dX8_init_34 : decode cX8_init 34 = .ok (.putfield 28, 3) := by decide +kernel
theorem dX8_init_37 : decode cX8_init 37 = .ok (.aload_n 0, 1) := by decide +kernel
theorem dX8_init_38 : decode cX8_init 38 = .ok (.bipush 60, 2) := by decide +kernel
theorem dX8_init_40 : decode cX8_init 40 = .ok (.anewarray 31, 3) := by decide +kernel
theorem dX8_init_43 : decode cX8_init 43 = .ok (.putfield 33, 3) := by decide +kernel
theorem dX8_init_46 : decode cX8_init 46 = .ok (.aload_n 0, 1) := by decide +kernel
theorem dX8_init_47 : decode cX8_init 47 = .ok (.iconst 0, 1) := by decide +kernel
theorem dX8_init_48 : decode cX8_init 48 = .ok (.putfield 37, 3) := by decide +kernel
theorem dX8_init_51 : decode cX8_init 51 = .ok (.aload_n 0, 1) := by decide +kernel
theorem dX8_init_52 : decode cX8_init 52 = .ok (.bipush 124, 2) := by decide +kernel
theorem dX8_init_54 : decode cX8_init 54 = .ok (.anewarray 40, 3) := by decide +kernel
theorem dX8_init_57 : decode cX8_init 57 = .ok (.putfield 42, 3) := by decide +kernel
theorem dX8_init_60 : decode cX8_init 60 = .ok (.aload_n 0, 1) := by decide +kernel
theorem dX8_init_61 : decode cX8_init 61 = .ok (.iconst 0, 1) := by decide +kernel
theorem dX8_init_62 : decode cX8_init 62 = .ok (.putfield 46, 3) := by decide +kernel
theorem dX8_init_65 : decode cX8_init 65 = .ok (.aload_n 0, 1) := by decide +kernel
theorem dX8_init_66 : decode cX8_init 66 = .ok (.iconst 3, 1) := by decide +kernel
theorem dX8_init_67 : decode cX8_init 67 = .ok (.anewarray 49, 3) := by decide +kernel
theorem dX8_init_70 : decode cX8_init 70 = .ok (.putfield 51, 3) := by decide +kernel
theorem dX8_init_73 : decode cX8_init 73 = .ok (.aload_n 0, 1) := by decide +kernel
theorem dX8_init_74 : decode cX8_init 74 = .ok (.iconst 0, 1) := by decide +kernel
theorem dX8_init_75 : decode cX8_init 75 = .ok (.putfield 55, 3) := by decide +kernel
theorem dX8_init_78 : decode cX8_init 78 = .ok (.aload_n 0, 1) := by decide +kernel
theorem dX8_init_79 : decode cX8_init 79 = .ok (.iconst 0, 1) := by decide +kernel
theorem dX8_init_80 : decode cX8_init 80 = .ok (.putfield 58, 3) := by decide +kernel
theorem dX8_init_83 : decode cX8_init 83 = .ok (.aload_n 0, 1) := by decide +kernel
theorem dX8_init_84 : decode cX8_init 84 = .ok (.new 49, 3) := by decide +kernel
theorem dX8_init_87 : decode cX8_init 87 = .ok (.dup, 1) := by decide +kernel
theorem dX8_init_88 : decode cX8_init 88 = .ok (.invokespecial 61, 3) := by decide +kernel
theorem dX8_init_91 : decode cX8_init 91 = .ok (.putfield 62, 3) := by decide +kernel
theorem dX8_init_94 : decode cX8_init 94 = .ok (.aload_n 0, 1) := by decide +kernel
theorem dX8_init_95 : decode cX8_init 95 = .ok (.iconst 0, 1) := by decide +kernel
theorem dX8_init_96 : decode cX8_init 96 = .ok (.putfield 66, 3) := by decide +kernel
theorem dX8_init_99 : decode cX8_init 99 = .ok (.aload_n 0, 1) := by decide +kernel
theorem dX8_init_100 : decode cX8_init 100 = .ok (.iconst 0, 1) := by decide +kernel
theorem dX8_init_101 : decode cX8_init 101 = .ok (.putfield 69, 3) := by decide +kernel
theorem dX8_init_104 : decode cX8_init 104 = .ok (.aload_n 0, 1) := by decide +kernel
theorem dX8_init_105 : decode cX8_init 105 = .ok (.getfield 11, 3) := by decide +kernel
theorem dX8_init_108 : decode cX8_init 108 = .ok (.iconst 0, 1) := by decide +kernel
theorem dX8_init_109 : decode cX8_init 109 = .ok (.new 9, 3) := by decide +kernel
theorem dX8_init_112 : decode cX8_init 112 = .ok (.dup, 1) := by decide +kernel
theorem dX8_init_113 : decode cX8_init 113 = .ok (.iconst 0, 1) := by decide +kernel
theorem dX8_init_114 : decode cX8_init 114 = .ok (.aconst_null, 1) := by decide +kernel
theorem dX8_init_115 : decode cX8_init 115 = .ok (.iconst 0, 1) := by decide +kernel
theorem dX8_init_116 : decode cX8_init 116 = .ok (.aconst_null, 1) := by decide +kernel
theorem dX8_init_117 : decode cX8_init 117 = .ok (.iconst 0, 1) := by decide +kernel
theorem dX8_init_118 : decode cX8_init 118 = .ok (.iconst 0, 1) := by decide +kernel
theorem dX8_init_119 : decode cX8_init 119 = .ok (.invokespecial 72, 3) := by decide +kernel
theorem dX8_init_122 : decode cX8_init 122 = .ok (.aastore, 1) := by decide +kernel
theorem dX8_init_123 : decode cX8_init 123 = .ok (.iconst 0, 1) := by decide +kernel
theorem dX8_init_124 : decode cX8_init 124 = .ok (.istore_n 1, 1) := by decide +kernel
theorem dX8_init_125 : decode cX8_init 125 = .ok (.iload_n 1, 1) := by decide +kernel
theorem dX8_init_126 : decode cX8_init 126 = .ok (.iconst 3, 1) := by decide +kernel
theorem dX8_init_127 : decode cX8_init 127 = .ok (.if_icmp .ge 22, 3) := by decide +kernel
theorem dX8_init_130 : decode cX8_init 130 = .ok (.aload_n 0, 1) := by decide +kernel
theorem dX8_init_131 : decode cX8_init 131 = .ok (.getfield 51, 3) := by decide +kernel
theorem dX8_init_134 : decode cX8_init 134 = .ok (.iload_n 1, 1) := by decide +kernel
theorem dX8_init_135 : decode cX8_init 135 = .ok (.new 49, 3) := by decide +kernel
theorem dX8_init_138 : decode cX8_init 138 = .ok (.dup, 1) := by decide +kernel
theorem dX8_init_139 : decode cX8_init 139 = .ok (.invokespecial 61, 3) := by decide +kernel
theorem dX8_init_142 : decode cX8_init 142 = .ok (.aastore, 1) := by decide +kernel
theorem dX8_init_143 : decode cX8_init 143 = .ok (.iinc 1 1, 3) := by decide +kernel
theorem dX8_init_146 : decode cX8_init 146 = .ok (.goto (-21), 3) := by decide +kernel
theorem dX8_init_149 : decode cX8_init 149 = .ok (.return_, 1) := by decide +kernel
theorem dX8_type_0 : decode cX8_type 0 = .ok (.aload_n 0, 1) := by decide +kernel
theorem dX8_type_1 : decode cX8_type 1 = .ok (.iload_n 1, 1) := by decide +kernel
theorem dX8_type_2 : decode cX8_type 2 = .ok (.invokevirtual 75, 3) := by decide +kernel
theorem dX8_type_5 : decode cX8_type 5 = .ok (.ifCond .eq 16, 3) := by decide +kernel
theorem dX8_type_8 : decode cX8_type 8 = .ok (.iload_n 3, 1) := by decide +kernel
theorem dX8_type_9 : decode cX8_type 9 = .ok (.iconst (-1), 1) := by decide +kernel
theorem dX8_type_10 : decode cX8_type 10 = .ok (.if_icmp .eq 14, 3) := by decide +kernel
theorem dX8_type_13 : decode cX8_type 13 = .ok (.aload_n 0, 1) := by decide +kernel
theorem dX8_type_14 : decode cX8_type 14 = .ok (.iload_n 3, 1) := by decide +kernel
theorem dX8_type_15 : decode cX8_type 15 = .ok (.invokevirtual 75, 3) := by decide +kernel
theorem dX8_type_18 : decode cX8_type 18 = .ok (.ifCond .ne 6, 3) := by decide +kernel
theorem dX8_type_21 : decode cX8_type 21 = .ok (.bipush (-2), 2) := by decide +kernel
theorem dX8_type_23 : decode cX8_type 23 = .ok (.ireturn, 1) := by decide +kernel
theorem dX8_type_24 : decode cX8_type 24 = .ok (.iload_n 2, 1) := by decide +kernel
theorem dX8_type_25 : decode cX8_type 25 = .ok (.ifCond .lt 8, 3) := by decide +kernel
theorem dX8_type_28 : decode cX8_type 28 = .ok (.iload_n 2, 1) := by decide +kernel
theorem dX8_type_29 : decode cX8_type 29 = .ok (.iconst 4, 1) := by decide +kernel
theorem dX8_type_30 : decode cX8_type 30 = .ok (.if_icmp .le 6, 3) := by decide +kernel
theorem dX8_type_33 : decode cX8_type 33 = .ok (.bipush (-3), 2) := by decide +kernel
theorem dX8_type_35 : decode cX8_type 35 = .ok (.ireturn, 1) := by decide +kernel
theorem dX8_type_36 : decode cX8_type 36 = .ok (.iload_n 3, 1) := by decide +kernel
theorem dX8_type_37 : decode cX8_type 37 = .ok (.iconst (-1), 1) := by decide +kernel
theorem dX8_type_38 : decode cX8_type 38 = .ok (.if_icmp .ne 7, 3) := by decide +kernel
theorem dX8_type_41 : decode cX8_type 41 = .ok (.aconst_null, 1) := by decide +kernel
theorem dX8_type_42 : decode cX8_type 42 = .ok (.goto 9, 3) := by decide +kernel
theorem dX8_type_45 : decode cX8_type 45 = .ok (.aload_n 0, 1) := by decide +kernel
theorem dX8_type_46 : decode cX8_type 46 = .ok (.getfield 11, 3) := by decide +kernel
theorem dX8_type_49 : decode cX8_type 49 = .ok (.iload_n 3, 1) := by decide +kernel
theorem dX8_type_50 : decode cX8_type 50 = .ok (.aaload, 1) := by decide +kernel
theorem dX8_type_51 : decode cX8_type 51 = .ok (.astore 6, 2) := by decide +kernel
theorem dX8_type_53 : decode cX8_type 53 = .ok (.iload_n 2, 1) := by decide +kernel
theorem dX8_type_54 : decode cX8_type 54 = .ok (.aload_n 0, 1) := by decide +kernel
theorem dX8_type_55 : decode cX8_type 55 = .ok (.getfield 11, 3) := by decide +kernel
theorem dX8_type_58 : decode cX8_type 58 = .ok (.iload_n 1, 1) := by decide +kernel
theorem dX8_type_59 : decode cX8_type 59 = .ok (.aaload, 1) := by decide +kernel
theorem dX8_type_60 : decode cX8_type 60 = .ok (.invokestatic 79, 3) := by decide +kernel
theorem dX8_type_63 : decode cX8_type 63 = .ok (.ifCond .eq 12, 3) := by decide +kernel
theorem dX8_type_66 : decode cX8_type 66 = .ok (.iload_n 2, 1) := by decide +kernel
theorem dX8_type_67 : decode cX8_type 67 = .ok (.aload 6, 2) := by decide +kernel
theorem dX8_type_69 : decode cX8_type 69 = .ok (.invokestatic 83, 3) := by decide +kernel
theorem dX8_type_72 : decode cX8_type 72 = .ok (.ifCond .ne 6, 3) := by decide +kernel
theorem dX8_type_75 : decode cX8_type 75 = .ok (.bipush (-4), 2) := by decide +kernel
theorem dX8_type_77 : decode cX8_type 77 = .ok (.ireturn, 1) := by decide +kernel
theorem dX8_type_78 : decode cX8_type 78 = .ok (.aload_n 0, 1) := by decide +kernel
theorem dX8_type_79 : decode cX8_type 79 = .ok (.getfield 15, 3) := by decide +kernel
theorem dX8_type_82 : decode cX8_type 82 = .ok (.bipush 16, 2) := by decide +kernel
theorem dX8_type_84 : decode cX8_type 84 = .ok (.if_icmp .lt 6, 3) := by decide +kernel
theorem dX8_type_90 : decode cX8_type 90 = .ok (.aload_n 0, 1) := by decide +kernel
theorem dX8_type_91 : decode cX8_type 91 = .ok (.getfield 11, 3) := by decide +kernel
theorem dX8_type_94 : decode cX8_type 94 = .ok (.aload_n 0, 1) := by decide +kernel
theorem dX8_type_95 : decode cX8_type 95 = .ok (.getfield 15, 3) := by decide +kernel
theorem dX8_type_98 : decode cX8_type 98 = .ok (.new 9, 3) := by decide +kernel
theorem dX8_type_101 : decode cX8_type 101 = .ok (.dup, 1) := by decide +kernel
theorem dX8_type_102 : decode cX8_type 102 = .ok (.aload_n 0, 1) := by decide +kernel
theorem dX8_type_103 : decode cX8_type 103 = .ok (.getfield 15, 3) := by decide +kernel
theorem dX8_type_106 : decode cX8_type 106 = .ok (.aload_n 0, 1) := by decide +kernel
theorem dX8_type_107 : decode cX8_type 107 = .ok (.getfield 11, 3) := by decide +kernel
theorem dX8_type_110 : decode cX8_type 110 = .ok (.iload_n 1, 1) := by decide +kernel
theorem dX8_type_111 : decode cX8_type 111 = .ok (.aaload, 1) := by decide +kernel
theorem dX8_type_112 : decode cX8_type 112 = .ok (.iload_n 2, 1) := by decide +kernel
theorem dX8_type_113 : decode cX8_type 113 = .ok (.aload 6, 2) := by decide +kernel
theorem dX8_type_115 : decode cX8_type 115 = .ok (.iload 4, 2) := by decide +kernel
theorem dX8_type_117 : decode cX8_type 117 = .ok (.iload 5, 2) := by decide +kernel
theorem dX8_type_119 : decode cX8_type 119 = .ok (.invokespecial 72, 3) := by decide +kernel
theorem dX8_type_122 : decode cX8_type 122 = .ok (.aastore, 1) := by decide +kernel
theorem dX8_type_123 : decode cX8_type 123 = .ok (.aload_n 0, 1) := by decide +kernel
theorem dX8_type_124 : decode cX8_type 124 = .ok (.dup, 1) := by decide +kernel
theorem dX8_type_125 : decode cX8_type 125 = .ok (.getfield 15, 3) := by decide +kernel
theorem dX8_type_128 : decode cX8_type 128 = .ok (.iconst 1, 1) := by decide +kernel
theorem dX8_type_129 : decode cX8_type 129 = .ok (.iadd, 1) := by decide +kernel
theorem dX8_type_130 : decode cX8_type 130 = .ok (.putfield 15, 3) := by decide +kernel
theorem dX8_type_133 : decode cX8_type 133 = .ok (.aload_n 0, 1) := by decide +kernel
theorem dX8_type_134 : decode cX8_type 134 = .ok (.getfield 15, 3) := by decide +kernel
theorem dX8_type_137 : decode cX8_type 137 = .ok (.iconst 1, 1) := by decide +kernel
theorem dX8_type_138 : decode cX8_type 138 = .ok (.isub, 1) := by decide +kernel
theorem dX8_type_139 : decode cX8_type 139 = .ok (.ireturn, 1) := by decide +kernel
theorem dX8_constants_0 : decode cX8_constants 0 = .ok (.aload_n 0, 1) := by decide +kernel
theorem dX8_constants_1 : decode cX8_constants 1 = .ok (.iload_n 1, 1) := by decide +kernel
theorem dX8_constants_2 : decode cX8_constants 2 = .ok (.invokevirtual 75, 3) := by decide +kernel
theorem dX8_constants_5 : decode cX8_constants 5 = .ok (.ifCond .ne 6, 3) := by decide +kernel
theorem dX8_constants_8 : decode cX8_constants 8 = .ok (.bipush (-2), 2) := by decide +kernel
theorem dX8_constants_10 : decode cX8_constants 10 = .ok (.ireturn, 1) := by decide +kernel
theorem dX8_constants_11 : decode cX8_constants 11 = .ok (.iload_n 2, 1) := by decide +kernel
theorem dX8_constants_12 : decode cX8_constants 12 = .ok (.iconst 1, 1) := by decide +kernel
theorem dX8_constants_13 : decode cX8_constants 13 = .ok (.if_icmp .lt 8, 3) := by decide +kernel
theorem dX8_constants_16 : decode cX8_constants 16 = .ok (.iload_n 2, 1) := by decide +kernel
theorem dX8_constants_17 : decode cX8_constants 17 = .ok (.iconst 4, 1) := by decide +kernel
theorem dX8_constants_18 : decode cX8_constants 18 = .ok (.if_icmp .le 6, 3) := by decide +kernel
theorem dX8_constants_21 : decode cX8_constants 21 = .ok (.bipush (-3), 2) := by decide +kernel
theorem dX8_constants_23 : decode cX8_constants 23 = .ok (.ireturn, 1) := by decide +kernel
theorem dX8_constants_24 : decode cX8_constants 24 = .ok (.aload_n 0, 1) := by decide +kernel
theorem dX8_constants_25 : decode cX8_constants 25 = .ok (.getfield 11, 3) := by decide +kernel
theorem dX8_constants_28 : decode cX8_constants 28 = .ok (.iload_n 1, 1) := by decide +kernel
theorem dX8_constants_29 : decode cX8_constants 29 = .ok (.aaload, 1) := by decide +kernel
theorem dX8_constants_30 : decode cX8_constants 30 = .ok (.astore_n 3, 1) := by decide +kernel
theorem dX8_constants_31 : decode cX8_constants 31 = .ok (.aload_n 3, 1) := by decide +kernel
theorem dX8_constants_32 : decode cX8_constants 32 = .ok (.getfield 86, 3) := by decide +kernel
theorem dX8_constants_35 : decode cX8_constants 35 = .ok (.iconst 4, 1) := by decide +kernel
theorem dX8_constants_36 : decode cX8_constants 36 = .ok (.if_icmp .ne 17, 3) := by decide +kernel
theorem dX8_constants_53 : decode cX8_constants 53 = .ok (.bipush (-4), 2) := by decide +kernel
theorem dX8_constants_55 : decode cX8_constants 55 = .ok (.ireturn, 1) := by decide +kernel
theorem dX8_field_0 : decode cX8_field 0 = .ok (.aload_n 0, 1) := by decide +kernel
theorem dX8_field_1 : decode cX8_field 1 = .ok (.iload_n 1, 1) := by decide +kernel
theorem dX8_field_2 : decode cX8_field 2 = .ok (.invokevirtual 75, 3) := by decide +kernel
theorem dX8_field_5 : decode cX8_field 5 = .ok (.ifCond .eq 11, 3) := by decide +kernel
theorem dX8_field_8 : decode cX8_field 8 = .ok (.aload_n 0, 1) := by decide +kernel
theorem dX8_field_9 : decode cX8_field 9 = .ok (.iload_n 3, 1) := by decide +kernel
theorem dX8_field_10 : decode cX8_field 10 = .ok (.invokevirtual 95, 3) := by decide +kernel
theorem dX8_field_13 : decode cX8_field 13 = .ok (.ifCond .eq 6, 3) := by decide +kernel
theorem dX8_field_16 : decode cX8_field 16 = .ok (.bipush (-2), 2) := by decide +kernel
theorem dX8_field_18 : decode cX8_field 18 = .ok (.ireturn, 1) := by decide +kernel
theorem dX8_field_19 : decode cX8_field 19 = .ok (.iload_n 2, 1) := by decide +kernel
theorem dX8_field_20 : decode cX8_field 20 = .ok (.invokestatic 98, 3) := by decide +kernel
theorem dX8_field_23 : decode cX8_field 23 = .ok (.ifCond .ne 9, 3) := by decide +kernel
theorem dX8_field_26 : decode cX8_field 26 = .ok (.iload_n 3, 1) := by decide +kernel
theorem dX8_field_27 : decode cX8_field 27 = .ok (.bipush (-2), 2) := by decide +kernel
theorem dX8_field_29 : decode cX8_field 29 = .ok (.if_icmp .ge 6, 3) := by decide +kernel
theorem dX8_field_32 : decode cX8_field 32 = .ok (.bipush (-3), 2) := by decide +kernel
theorem dX8_field_34 : decode cX8_field 34 = .ok (.ireturn, 1) := by decide +kernel
theorem dX8_field_35 : decode cX8_field 35 = .ok (.aload_n 0, 1) := by decide +kernel
theorem dX8_field_36 : decode cX8_field 36 = .ok (.getfield 11, 3) := by decide +kernel
theorem dX8_field_39 : decode cX8_field 39 = .ok (.iload_n 1, 1) := by decide +kernel
theorem dX8_field_40 : decode cX8_field 40 = .ok (.aaload, 1) := by decide +kernel
theorem dX8_field_41 : decode cX8_field 41 = .ok (.astore 7, 2) := by decide +kernel
theorem dX8_field_43 : decode cX8_field 43 = .ok (.aload_n 0, 1) := by decide +kernel
theorem dX8_field_44 : decode cX8_field 44 = .ok (.getfield 46, 3) := by decide +kernel
theorem dX8_field_47 : decode cX8_field 47 = .ok (.ifCond .gt 26, 3) := by decide +kernel
theorem dX8_field_50 : decode cX8_field 50 = .ok (.aload 7, 2) := by decide +kernel
theorem dX8_field_52 : decode cX8_field 52 = .ok (.iload 4, 2) := by decide +kernel
theorem dX8_field_54 : decode cX8_field 54 = .ok (.iload 5, 2) := by decide +kernel
theorem dX8_field_56 : decode cX8_field 56 = .ok (.invokestatic 101, 3) := by decide +kernel
theorem dX8_field_59 : decode cX8_field 59 = .ok (.ifCond .eq 14, 3) := by decide +kernel
theorem dX8_field_62 : decode cX8_field 62 = .ok (.aload_n 0, 1) := by decide +kernel
theorem dX8_field_63 : decode cX8_field 63 = .ok (.aload 7, 2) := by decide +kernel
theorem dX8_field_65 : decode cX8_field 65 = .ok (.iload_n 2, 1) := by decide +kernel
theorem dX8_field_66 : decode cX8_field 66 = .ok (.invokevirtual 105, 3) := by decide +kernel
theorem dX8_field_69 : decode cX8_field 69 = .ok (.iconst (-1), 1) := by decide +kernel
theorem dX8_field_70 : decode cX8_field 70 = .ok (.if_icmp .eq 6, 3) := by decide +kernel
theorem dX8_field_73 : decode cX8_field 73 = .ok (.bipush (-4), 2) := by decide +kernel
theorem dX8_field_75 : decode cX8_field 75 = .ok (.ireturn, 1) := by decide +kernel
theorem dX8_field_76 : decode cX8_field 76 = .ok (.aload_n 0, 1) := by decide +kernel
theorem dX8_field_77 : decode cX8_field 77 = .ok (.getfield 25, 3) := by decide +kernel
theorem dX8_field_80 : decode cX8_field 80 = .ok (.bipush 40, 2) := by decide +kernel
theorem dX8_field_82 : decode cX8_field 82 = .ok (.if_icmp .lt 6, 3) := by decide +kernel
theorem dX8_field_88 : decode cX8_field 88 = .ok (.iload 4, 2) := by decide +kernel
theorem dX8_field_90 : decode cX8_field 90 = .ok (.ifCond .eq 7, 3) := by decide +kernel
theorem dX8_field_93 : decode cX8_field 93 = .ok (.iconst (-1), 1) := by decide +kernel
theorem dX8_field_94 : decode cX8_field 94 = .ok (.goto 7, 3) := by decide +kernel
theorem dX8_field_101 : decode cX8_field 101 = .ok (.istore 8, 2) := by decide +kernel
theorem dX8_field_103 : decode cX8_field 103 = .ok (.iload 4, 2) := by decide +kernel
theorem dX8_field_105 : decode cX8_field 105 = .ok (.ifCond .ne 13, 3) := by decide +kernel
theorem dX8_field_118 : decode cX8_field 118 = .ok (.aload_n 0, 1) := by decide +kernel
theorem dX8_field_119 : decode cX8_field 119 = .ok (.new 109, 3) := by decide +kernel
theorem dX8_field_122 : decode cX8_field 122 = .ok (.dup, 1) := by decide +kernel
theorem dX8_field_123 : decode cX8_field 123 = .ok (.aload 7, 2) := by decide +kernel
theorem dX8_field_125 : decode cX8_field 125 = .ok (.iload_n 2, 1) := by decide +kernel
theorem dX8_field_126 : decode cX8_field 126 = .ok (.iload_n 3, 1) := by decide +kernel
theorem dX8_field_127 : decode cX8_field 127 = .ok (.iload 4, 2) := by decide +kernel
theorem dX8_field_129 : decode cX8_field 129 = .ok (.iload 5, 2) := by decide +kernel
theorem dX8_field_131 : decode cX8_field 131 = .ok (.iload 6, 2) := by decide +kernel
theorem dX8_field_133 : decode cX8_field 133 = .ok (.iload 8, 2) := by decide +kernel
theorem dX8_field_135 : decode cX8_field 135 = .ok (.invokespecial 111, 3) := by decide +kernel
theorem dX8_field_138 : decode cX8_field 138 = .ok (.invokevirtual 114, 3) := by decide +kernel
theorem dX8_field_141 : decode cX8_field 141 = .ok (.ireturn, 1) := by decide +kernel
theorem dX8_caller_0 : decode cX8_caller 0 = .ok (.aload_n 0, 1) := by decide +kernel
theorem dX8_caller_1 : decode cX8_caller 1 = .ok (.iload_n 1, 1) := by decide +kernel
theorem dX8_caller_2 : decode cX8_caller 2 = .ok (.invokevirtual 75, 3) := by decide +kernel
theorem dX8_caller_5 : decode cX8_caller 5 = .ok (.ifCond .ne 6, 3) := by decide +kernel
theorem dX8_caller_8 : decode cX8_caller 8 = .ok (.bipush (-2), 2) := by decide +kernel
theorem dX8_caller_10 : decode cX8_caller 10 = .ok (.ireturn, 1) := by decide +kernel
theorem dX8_caller_11 : decode cX8_caller 11 = .ok (.aload_n 0, 1) := by decide +kernel
theorem dX8_caller_12 : decode cX8_caller 12 = .ok (.getfield 58, 3) := by decide +kernel
theorem dX8_caller_15 : decode cX8_caller 15 = .ok (.istore_n 2, 1) := by decide +kernel
theorem dX8_caller_16 : decode cX8_caller 16 = .ok (.aload_n 0, 1) := by decide +kernel
theorem dX8_caller_17 : decode cX8_caller 17 = .ok (.iload_n 1, 1) := by decide +kernel
theorem dX8_caller_18 : decode cX8_caller 18 = .ok (.putfield 58, 3) := by decide +kernel
theorem dX8_caller_21 : decode cX8_caller 21 = .ok (.iload_n 2, 1) := by decide +kernel
theorem dX8_caller_22 : decode cX8_caller 22 = .ok (.ireturn, 1) := by decide +kernel
theorem dX8_findField_0 : decode cX8_findField 0 = .ok (.aload_n 0, 1) := by decide +kernel
theorem dX8_findField_1 : decode cX8_findField 1 = .ok (.iload_n 1, 1) := by decide +kernel
theorem dX8_findField_2 : decode cX8_findField 2 = .ok (.invokevirtual 75, 3) := by decide +kernel
theorem dX8_findField_5 : decode cX8_findField 5 = .ok (.ifCond .ne 6, 3) := by decide +kernel
theorem dX8_findField_8 : decode cX8_findField 8 = .ok (.bipush (-2), 2) := by decide +kernel
theorem dX8_findField_10 : decode cX8_findField 10 = .ok (.ireturn, 1) := by decide +kernel
theorem dX8_findField_11 : decode cX8_findField 11 = .ok (.iload_n 2, 1) := by decide +kernel
theorem dX8_findField_12 : decode cX8_findField 12 = .ok (.invokestatic 98, 3) := by decide +kernel
theorem dX8_findField_15 : decode cX8_findField 15 = .ok (.ifCond .eq 6, 3) := by decide +kernel
theorem dX8_findField_18 : decode cX8_findField 18 = .ok (.bipush (-3), 2) := by decide +kernel
theorem dX8_findField_20 : decode cX8_findField 20 = .ok (.ireturn, 1) := by decide +kernel
theorem dX8_findField_21 : decode cX8_findField 21 = .ok (.aload_n 0, 1) := by decide +kernel
theorem dX8_findField_22 : decode cX8_findField 22 = .ok (.iload_n 3, 1) := by decide +kernel
theorem dX8_findField_23 : decode cX8_findField 23 = .ok (.ifCond .eq 17, 3) := by decide +kernel
theorem dX8_findField_26 : decode cX8_findField 26 = .ok (.aload_n 0, 1) := by decide +kernel
theorem dX8_findField_27 : decode cX8_findField 27 = .ok (.aload_n 0, 1) := by decide +kernel
theorem dX8_findField_28 : decode cX8_findField 28 = .ok (.getfield 11, 3) := by decide +kernel
theorem dX8_findField_31 : decode cX8_findField 31 = .ok (.iload_n 1, 1) := by decide +kernel
theorem dX8_findField_32 : decode cX8_findField 32 = .ok (.aaload, 1) := by decide +kernel
theorem dX8_findField_33 : decode cX8_findField 33 = .ok (.iload_n 2, 1) := by decide +kernel
theorem dX8_findField_34 : decode cX8_findField 34 = .ok (.invokevirtual 158, 3) := by decide +kernel
theorem dX8_findField_37 : decode cX8_findField 37 = .ok (.goto 14, 3) := by decide +kernel
theorem dX8_findField_40 : decode cX8_findField 40 = .ok (.aload_n 0, 1) := by decide +kernel
theorem dX8_findField_41 : decode cX8_findField 41 = .ok (.aload_n 0, 1) := by decide +kernel
theorem dX8_findField_42 : decode cX8_findField 42 = .ok (.getfield 11, 3) := by decide +kernel
theorem dX8_findField_45 : decode cX8_findField 45 = .ok (.iload_n 1, 1) := by decide +kernel
theorem dX8_findField_46 : decode cX8_findField 46 = .ok (.aaload, 1) := by decide +kernel
theorem dX8_findField_47 : decode cX8_findField 47 = .ok (.iload_n 2, 1) := by decide +kernel
theorem dX8_findField_48 : decode cX8_findField 48 = .ok (.invokevirtual 105, 3) := by decide +kernel
theorem dX8_findField_51 : decode cX8_findField 51 = .ok (.invokevirtual 161, 3) := by decide +kernel
theorem dX8_findField_54 : decode cX8_findField 54 = .ok (.ireturn, 1) := by decide +kernel
theorem dX8_findMethod_0 : decode cX8_findMethod 0 = .ok (.new 118, 3) := by decide +kernel
theorem dX8_findMethod_3 : decode cX8_findMethod 3 = .ok (.dup, 1) := by decide +kernel
theorem dX8_findMethod_4 : decode cX8_findMethod 4 = .ok (.iload_n 2, 1) := by decide +kernel
theorem dX8_findMethod_5 : decode cX8_findMethod 5 = .ok (.iload_n 3, 1) := by decide +kernel
theorem dX8_findMethod_6 : decode cX8_findMethod 6 = .ok (.iload 4, 2) := by decide +kernel
theorem dX8_findMethod_8 : decode cX8_findMethod 8 = .ok (.iload 5, 2) := by decide +kernel
theorem dX8_findMethod_10 : decode cX8_findMethod 10 = .ok (.invokespecial 120, 3) := by decide +kernel
theorem dX8_findMethod_13 : decode cX8_findMethod 13 = .ok (.astore 7, 2) := by decide +kernel
theorem dX8_findMethod_15 : decode cX8_findMethod 15 = .ok (.aload_n 0, 1) := by decide +kernel
theorem dX8_findMethod_16 : decode cX8_findMethod 16 = .ok (.iload_n 1, 1) := by decide +kernel
theorem dX8_findMethod_17 : decode cX8_findMethod 17 = .ok (.invokevirtual 75, 3) := by decide +kernel
theorem dX8_findMethod_20 : decode cX8_findMethod 20 = .ok (.ifCond .eq 12, 3) := by decide +kernel
theorem dX8_findMethod_23 : decode cX8_findMethod 23 = .ok (.aload_n 0, 1) := by decide +kernel
theorem dX8_findMethod_24 : decode cX8_findMethod 24 = .ok (.aload 7, 2) := by decide +kernel
theorem dX8_findMethod_26 : decode cX8_findMethod 26 = .ok (.invokevirtual 123, 3) := by decide +kernel
theorem dX8_findMethod_29 : decode cX8_findMethod 29 = .ok (.ifCond .eq 6, 3) := by decide +kernel
theorem dX8_findMethod_32 : decode cX8_findMethod 32 = .ok (.bipush (-2), 2) := by decide +kernel
theorem dX8_findMethod_34 : decode cX8_findMethod 34 = .ok (.ireturn, 1) := by decide +kernel
theorem dX8_findMethod_35 : decode cX8_findMethod 35 = .ok (.aload 7, 2) := by decide +kernel
theorem dX8_findMethod_37 : decode cX8_findMethod 37 = .ok (.invokevirtual 127, 3) := by decide +kernel
theorem dX8_findMethod_40 : decode cX8_findMethod 40 = .ok (.ifCond .eq 6, 3) := by decide +kernel
theorem dX8_findMethod_43 : decode cX8_findMethod 43 = .ok (.bipush (-3), 2) := by decide +kernel
theorem dX8_findMethod_45 : decode cX8_findMethod 45 = .ok (.ireturn, 1) := by decide +kernel
theorem dX8_findMethod_46 : decode cX8_findMethod 46 = .ok (.aload_n 0, 1) := by decide +kernel
theorem dX8_findMethod_47 : decode cX8_findMethod 47 = .ok (.iload 6, 2) := by decide +kernel
theorem dX8_findMethod_49 : decode cX8_findMethod 49 = .ok (.ifCond .eq 18, 3) := by decide +kernel
theorem dX8_findMethod_52 : decode cX8_findMethod 52 = .ok (.aload_n 0, 1) := by decide +kernel
theorem dX8_findMethod_53 : decode cX8_findMethod 53 = .ok (.aload_n 0, 1) := by decide +kernel
theorem dX8_findMethod_54 : decode cX8_findMethod 54 = .ok (.getfield 11, 3) := by decide +kernel
theorem dX8_findMethod_57 : decode cX8_findMethod 57 = .ok (.iload_n 1, 1) := by decide +kernel
theorem dX8_findMethod_58 : decode cX8_findMethod 58 = .ok (.aaload, 1) := by decide +kernel
theorem dX8_findMethod_59 : decode cX8_findMethod 59 = .ok (.aload 7, 2) := by decide +kernel
theorem dX8_findMethod_61 : decode cX8_findMethod 61 = .ok (.invokevirtual 165, 3) := by decide +kernel
theorem dX8_findMethod_64 : decode cX8_findMethod 64 = .ok (.goto 15, 3) := by decide +kernel
theorem dX8_findMethod_67 : decode cX8_findMethod 67 = .ok (.aload_n 0, 1) := by decide +kernel
theorem dX8_findMethod_68 : decode cX8_findMethod 68 = .ok (.aload_n 0, 1) := by decide +kernel
theorem dX8_findMethod_69 : decode cX8_findMethod 69 = .ok (.getfield 11, 3) := by decide +kernel
theorem dX8_findMethod_72 : decode cX8_findMethod 72 = .ok (.iload_n 1, 1) := by decide +kernel
theorem dX8_findMethod_73 : decode cX8_findMethod 73 = .ok (.aaload, 1) := by decide +kernel
theorem dX8_findMethod_74 : decode cX8_findMethod 74 = .ok (.aload 7, 2) := by decide +kernel
theorem dX8_findMethod_76 : decode cX8_findMethod 76 = .ok (.invokevirtual 154, 3) := by decide +kernel
theorem dX8_findMethod_79 : decode cX8_findMethod 79 = .ok (.invokevirtual 161, 3) := by decide +kernel
theorem dX8_findMethod_82 : decode cX8_findMethod 82 = .ok (.ireturn, 1) := by decide +kernel
theorem dX8_leave_0 : decode cX8_leave 0 = .ok (.aload_n 0, 1) := by decide +kernel
theorem dX8_leave_1 : decode cX8_leave 1 = .ok (.iload_n 1, 1) := by decide +kernel
theorem dX8_leave_2 : decode cX8_leave 2 = .ok (.invokevirtual 168, 3) := by decide +kernel
theorem dX8_leave_5 : decode cX8_leave 5 = .ok (.ifCond .ne 6, 3) := by decide +kernel
theorem dX8_leave_8 : decode cX8_leave 8 = .ok (.bipush (-2), 2) := by decide +kernel
theorem dX8_leave_10 : decode cX8_leave 10 = .ok (.ireturn, 1) := by decide +kernel
theorem dX8_get_0 : decode cX8_get 0 = .ok (.aload_n 0, 1) := by decide +kernel
theorem dX8_get_1 : decode cX8_get 1 = .ok (.iload_n 1, 1) := by decide +kernel
theorem dX8_get_2 : decode cX8_get 2 = .ok (.invokevirtual 168, 3) := by decide +kernel
theorem dX8_get_5 : decode cX8_get 5 = .ok (.ifCond .eq 11, 3) := by decide +kernel
theorem dX8_get_16 : decode cX8_get 16 = .ok (.bipush (-2), 2) := by decide +kernel
theorem dX8_get_18 : decode cX8_get 18 = .ok (.ireturn, 1) := by decide +kernel
theorem dX8_set_0 : decode cX8_set 0 = .ok (.aload_n 0, 1) := by decide +kernel
theorem dX8_set_1 : decode cX8_set 1 = .ok (.iload_n 1, 1) := by decide +kernel
theorem dX8_set_2 : decode cX8_set 2 = .ok (.invokevirtual 168, 3) := by decide +kernel
theorem dX8_set_5 : decode cX8_set 5 = .ok (.ifCond .eq 11, 3) := by decide +kernel
theorem dX8_set_16 : decode cX8_set 16 = .ok (.bipush (-2), 2) := by decide +kernel
theorem dX8_set_18 : decode cX8_set 18 = .ok (.ireturn, 1) := by decide +kernel
theorem dX8_call_0 : decode cX8_call 0 = .ok (.aload_n 0, 1) := by decide +kernel
theorem dX8_call_1 : decode cX8_call 1 = .ok (.iload_n 1, 1) := by decide +kernel
theorem dX8_call_2 : decode cX8_call 2 = .ok (.invokevirtual 168, 3) := by decide +kernel
theorem dX8_call_5 : decode cX8_call 5 = .ok (.ifCond .eq 11, 3) := by decide +kernel
theorem dX8_call_16 : decode cX8_call 16 = .ok (.bipush (-2), 2) := by decide +kernel
theorem dX8_call_18 : decode cX8_call 18 = .ok (.ireturn, 1) := by decide +kernel
theorem dX8_proxy_0 : decode cX8_proxy 0 = .ok (.aload_n 0, 1) := by decide +kernel
theorem dX8_proxy_1 : decode cX8_proxy 1 = .ok (.iload_n 1, 1) := by decide +kernel
theorem dX8_proxy_2 : decode cX8_proxy 2 = .ok (.invokevirtual 75, 3) := by decide +kernel
theorem dX8_proxy_5 : decode cX8_proxy 5 = .ok (.ifCond .ne 6, 3) := by decide +kernel
theorem dX8_proxy_8 : decode cX8_proxy 8 = .ok (.bipush (-2), 2) := by decide +kernel
theorem dX8_proxy_10 : decode cX8_proxy 10 = .ok (.ireturn, 1) := by decide +kernel
theorem dX8_proxy_11 : decode cX8_proxy 11 = .ok (.iload_n 2, 1) := by decide +kernel
theorem dX8_proxy_12 : decode cX8_proxy 12 = .ok (.ifCond .lt 8, 3) := by decide +kernel
theorem dX8_proxy_15 : decode cX8_proxy 15 = .ok (.iload_n 2, 1) := by decide +kernel
theorem dX8_proxy_16 : decode cX8_proxy 16 = .ok (.iconst 3, 1) := by decide +kernel
theorem dX8_proxy_17 : decode cX8_proxy 17 = .ok (.if_icmp .le 6, 3) := by decide +kernel
theorem dX8_proxy_20 : decode cX8_proxy 20 = .ok (.bipush (-3), 2) := by decide +kernel
theorem dX8_proxy_22 : decode cX8_proxy 22 = .ok (.ireturn, 1) := by decide +kernel
theorem dX8_proxy_23 : decode cX8_proxy 23 = .ok (.aload_n 0, 1) := by decide +kernel
theorem dX8_proxy_24 : decode cX8_proxy 24 = .ok (.getfield 11, 3) := by decide +kernel
theorem dX8_proxy_27 : decode cX8_proxy 27 = .ok (.iload_n 1, 1) := by decide +kernel
theorem dX8_proxy_28 : decode cX8_proxy 28 = .ok (.aaload, 1) := by decide +kernel
theorem dX8_proxy_29 : decode cX8_proxy 29 = .ok (.getfield 86, 3) := by decide +kernel
theorem dX8_proxy_32 : decode cX8_proxy 32 = .ok (.iconst 2, 1) := by decide +kernel
theorem dX8_proxy_33 : decode cX8_proxy 33 = .ok (.if_icmp .eq 6, 3) := by decide +kernel
theorem dX8_proxy_36 : decode cX8_proxy 36 = .ok (.bipush (-4), 2) := by decide +kernel
theorem dX8_proxy_38 : decode cX8_proxy 38 = .ok (.ireturn, 1) := by decide +kernel
theorem dX8_constant_0 : decode cX8_constant 0 = .ok (.aload_n 0, 1) := by decide +kernel
theorem dX8_constant_1 : decode cX8_constant 1 = .ok (.iload_n 1, 1) := by decide +kernel
theorem dX8_constant_2 : decode cX8_constant 2 = .ok (.invokevirtual 75, 3) := by decide +kernel
theorem dX8_constant_5 : decode cX8_constant 5 = .ok (.ifCond .ne 6, 3) := by decide +kernel
theorem dX8_constant_8 : decode cX8_constant 8 = .ok (.bipush (-2), 2) := by decide +kernel
theorem dX8_constant_10 : decode cX8_constant 10 = .ok (.ireturn, 1) := by decide +kernel
theorem dX8_constant_11 : decode cX8_constant 11 = .ok (.aload_n 0, 1) := by decide +kernel
theorem dX8_constant_12 : decode cX8_constant 12 = .ok (.getfield 11, 3) := by decide +kernel
theorem dX8_constant_15 : decode cX8_constant 15 = .ok (.iload_n 1, 1) := by decide +kernel
theorem dX8_constant_16 : decode cX8_constant 16 = .ok (.aaload, 1) := by decide +kernel
theorem dX8_constant_17 : decode cX8_constant 17 = .ok (.astore_n 3, 1) := by decide +kernel
theorem dX8_constant_18 : decode cX8_constant 18 = .ok (.aload_n 3, 1) := by decide +kernel
theorem dX8_constant_19 : decode cX8_constant 19 = .ok (.getfield 86, 3) := by decide +kernel
theorem dX8_constant_22 : decode cX8_constant 22 = .ok (.iconst 4, 1) := by decide +kernel
theorem dX8_constant_23 : decode cX8_constant 23 = .ok (.if_icmp .eq 6, 3) := by decide +kernel
theorem dX8_constant_26 : decode cX8_constant 26 = .ok (.bipush (-4), 2) := by decide +kernel
theorem dX8_constant_28 : decode cX8_constant 28 = .ok (.ireturn, 1) := by decide +kernel
theorem dX8_resultKind_0 : decode cX8_resultKind 0 = .ok (.aload_n 0, 1) := by decide +kernel
theorem dX8_resultKind_1 : decode cX8_resultKind 1 = .ok (.getfield 62, 3) := by decide +kernel
theorem dX8_resultKind_4 : decode cX8_resultKind 4 = .ok (.getfield 258, 3) := by decide +kernel
theorem dX8_resultKind_7 : decode cX8_resultKind 7 = .ok (.ireturn, 1) := by decide +kernel
theorem dX8_result_0 : decode cX8_result 0 = .ok (.aload_n 0, 1) := by decide +kernel
theorem dX8_result_1 : decode cX8_result 1 = .ok (.getfield 62, 3) := by decide +kernel
theorem dX8_result_4 : decode cX8_result 4 = .ok (.getfield 261, 3) := by decide +kernel
theorem dX8_result_7 : decode cX8_result 7 = .ok (.lreturn, 1) := by decide +kernel
theorem dX8_cause_0 : decode cX8_cause 0 = .ok (.aload_n 0, 1) := by decide +kernel
theorem dX8_cause_1 : decode cX8_cause 1 = .ok (.getfield 69, 3) := by decide +kernel
theorem dX8_cause_4 : decode cX8_cause 4 = .ok (.ireturn, 1) := by decide +kernel
theorem dX8_about_0 : decode cX8_about 0 = .ok (.aload_n 0, 1) := by decide +kernel
theorem dX8_about_1 : decode cX8_about 1 = .ok (.iload_n 1, 1) := by decide +kernel
theorem dX8_about_2 : decode cX8_about 2 = .ok (.invokevirtual 75, 3) := by decide +kernel
theorem dX8_about_5 : decode cX8_about 5 = .ok (.ifCond .ne 6, 3) := by decide +kernel
theorem dX8_about_8 : decode cX8_about 8 = .ok (.bipush (-2), 2) := by decide +kernel
theorem dX8_about_10 : decode cX8_about 10 = .ok (.ireturn, 1) := by decide +kernel
theorem dX8_about_11 : decode cX8_about 11 = .ok (.aload_n 0, 1) := by decide +kernel
theorem dX8_about_12 : decode cX8_about 12 = .ok (.getfield 11, 3) := by decide +kernel
theorem dX8_about_15 : decode cX8_about 15 = .ok (.iload_n 1, 1) := by decide +kernel
theorem dX8_about_16 : decode cX8_about 16 = .ok (.aaload, 1) := by decide +kernel
theorem dX8_about_17 : decode cX8_about 17 = .ok (.astore_n 3, 1) := by decide +kernel
theorem dX8_about_18 : decode cX8_about 18 = .ok (.iload_n 2, 1) := by decide +kernel
theorem dX8_about_19 : decode cX8_about 19 = .ok (.tableswitch 86 0 4 #[33, 38, 57, 76, 81], 33) := by decide +kernel
theorem dX8_about_52 : decode cX8_about 52 = .ok (.aload_n 3, 1) := by decide +kernel
theorem dX8_about_53 : decode cX8_about 53 = .ok (.getfield 86, 3) := by decide +kernel
theorem dX8_about_56 : decode cX8_about 56 = .ok (.ireturn, 1) := by decide +kernel
theorem dX8_about_57 : decode cX8_about 57 = .ok (.aload_n 3, 1) := by decide +kernel
theorem dX8_about_58 : decode cX8_about 58 = .ok (.getfield 264, 3) := by decide +kernel
theorem dX8_about_61 : decode cX8_about 61 = .ok (.ifnonnull 7, 3) := by decide +kernel
theorem dX8_about_64 : decode cX8_about 64 = .ok (.iconst (-1), 1) := by decide +kernel
theorem dX8_about_65 : decode cX8_about 65 = .ok (.goto 10, 3) := by decide +kernel
theorem dX8_about_75 : decode cX8_about 75 = .ok (.ireturn, 1) := by decide +kernel
theorem dX8_about_76 : decode cX8_about 76 = .ok (.aload_n 3, 1) := by decide +kernel
theorem dX8_about_77 : decode cX8_about 77 = .ok (.getfield 267, 3) := by decide +kernel
theorem dX8_about_80 : decode cX8_about 80 = .ok (.ifnonnull 7, 3) := by decide +kernel
theorem dX8_about_83 : decode cX8_about 83 = .ok (.iconst (-1), 1) := by decide +kernel
theorem dX8_about_84 : decode cX8_about 84 = .ok (.goto 10, 3) := by decide +kernel
theorem dX8_about_94 : decode cX8_about 94 = .ok (.ireturn, 1) := by decide +kernel
theorem dX8_about_95 : decode cX8_about 95 = .ok (.aload_n 3, 1) := by decide +kernel
theorem dX8_about_96 : decode cX8_about 96 = .ok (.getfield 92, 3) := by decide +kernel
theorem dX8_about_99 : decode cX8_about 99 = .ok (.ireturn, 1) := by decide +kernel
theorem dX8_about_100 : decode cX8_about 100 = .ok (.aload_n 3, 1) := by decide +kernel
theorem dX8_about_101 : decode cX8_about 101 = .ok (.getfield 270, 3) := by decide +kernel
theorem dX8_about_104 : decode cX8_about 104 = .ok (.ireturn, 1) := by decide +kernel
theorem dX8_about_105 : decode cX8_about 105 = .ok (.bipush (-3), 2) := by decide +kernel
theorem dX8_about_107 : decode cX8_about 107 = .ok (.ireturn, 1) := by decide +kernel
theorem dX8_is_0 : decode cX8_is 0 = .ok (.aload_n 0, 1) := by decide +kernel
theorem dX8_is_1 : decode cX8_is 1 = .ok (.iload_n 1, 1) := by decide +kernel
theorem dX8_is_2 : decode cX8_is 2 = .ok (.invokevirtual 273, 3) := by decide +kernel
theorem dX8_is_5 : decode cX8_is 5 = .ok (.ifCond .eq 11, 3) := by decide +kernel
theorem dX8_is_16 : decode cX8_is 16 = .ok (.bipush (-2), 2) := by decide +kernel
theorem dX8_is_18 : decode cX8_is 18 = .ok (.ireturn, 1) := by decide +kernel
theorem dX8_handle_0 : decode cX8_handle 0 = .ok (.aload_n 0, 1) := by decide +kernel
theorem dX8_handle_1 : decode cX8_handle 1 = .ok (.iload_n 1, 1) := by decide +kernel
theorem dX8_handle_2 : decode cX8_handle 2 = .ok (.invokevirtual 168, 3) := by decide +kernel
theorem dX8_handle_5 : decode cX8_handle 5 = .ok (.ifCond .ne 6, 3) := by decide +kernel
theorem dX8_handle_8 : decode cX8_handle 8 = .ok (.bipush (-2), 2) := by decide +kernel
theorem dX8_handle_10 : decode cX8_handle 10 = .ok (.ireturn, 1) := by decide +kernel
theorem dX8_told_0 : decode cX8_told 0 = .ok (.iload_n 1, 1) := by decide +kernel
theorem dX8_told_1 : decode cX8_told 1 = .ok (.tableswitch 69 0 5 #[39, 44, 49, 54, 59, 64], 39) := by decide +kernel
theorem dX8_told_40 : decode cX8_told 40 = .ok (.aload_n 0, 1) := by decide +kernel
theorem dX8_told_41 : decode cX8_told 41 = .ok (.getfield 15, 3) := by decide +kernel
theorem dX8_told_44 : decode cX8_told 44 = .ok (.ireturn, 1) := by decide +kernel
theorem dX8_told_45 : decode cX8_told 45 = .ok (.aload_n 0, 1) := by decide +kernel
theorem dX8_told_46 : decode cX8_told 46 = .ok (.getfield 25, 3) := by decide +kernel
theorem dX8_told_49 : decode cX8_told 49 = .ok (.ireturn, 1) := by decide +kernel
theorem dX8_told_50 : decode cX8_told 50 = .ok (.aload_n 0, 1) := by decide +kernel
theorem dX8_told_51 : decode cX8_told 51 = .ok (.getfield 37, 3) := by decide +kernel
theorem dX8_told_54 : decode cX8_told 54 = .ok (.ireturn, 1) := by decide +kernel
theorem dX8_told_55 : decode cX8_told 55 = .ok (.aload_n 0, 1) := by decide +kernel
theorem dX8_told_56 : decode cX8_told 56 = .ok (.getfield 46, 3) := by decide +kernel
theorem dX8_told_59 : decode cX8_told 59 = .ok (.ireturn, 1) := by decide +kernel
theorem dX8_told_60 : decode cX8_told 60 = .ok (.aload_n 0, 1) := by decide +kernel
theorem dX8_told_61 : decode cX8_told 61 = .ok (.getfield 55, 3) := by decide +kernel
theorem dX8_told_64 : decode cX8_told 64 = .ok (.ireturn, 1) := by decide +kernel
theorem dX8_told_65 : decode cX8_told 65 = .ok (.aload_n 0, 1) := by decide +kernel
theorem dX8_told_66 : decode cX8_told 66 = .ok (.getfield 66, 3) := by decide +kernel
theorem dX8_told_69 : decode cX8_told 69 = .ok (.ireturn, 1) := by decide +kernel
theorem dX8_told_70 : decode cX8_told 70 = .ok (.bipush (-3), 2) := by decide +kernel
theorem dX8_told_72 : decode cX8_told 72 = .ok (.ireturn, 1) := by decide +kernel
theorem dX8_isClass_0 : decode cX8_isClass 0 = .ok (.iload_n 1, 1) := by decide +kernel
theorem dX8_isClass_1 : decode cX8_isClass 1 = .ok (.ifCond .lt 15, 3) := by decide +kernel
theorem dX8_isClass_4 : decode cX8_isClass 4 = .ok (.iload_n 1, 1) := by decide +kernel
theorem dX8_isClass_5 : decode cX8_isClass 5 = .ok (.aload_n 0, 1) := by decide +kernel
theorem dX8_isClass_6 : decode cX8_isClass 6 = .ok (.getfield 15, 3) := by decide +kernel
theorem dX8_isClass_9 : decode cX8_isClass 9 = .ok (.if_icmp .ge 7, 3) := by decide +kernel
theorem dX8_isClass_12 : decode cX8_isClass 12 = .ok (.iconst 1, 1) := by decide +kernel
theorem dX8_isClass_13 : decode cX8_isClass 13 = .ok (.goto 4, 3) := by decide +kernel
theorem dX8_isClass_16 : decode cX8_isClass 16 = .ok (.iconst 0, 1) := by decide +kernel
theorem dX8_isClass_17 : decode cX8_isClass 17 = .ok (.ireturn, 1) := by decide +kernel
theorem dX8_isHandle_0 : decode cX8_isHandle 0 = .ok (.iload_n 1, 1) := by decide +kernel
theorem dX8_isHandle_1 : decode cX8_isHandle 1 = .ok (.ifCond .lt 15, 3) := by decide +kernel
theorem dX8_isHandle_4 : decode cX8_isHandle 4 = .ok (.iload_n 1, 1) := by decide +kernel
theorem dX8_isHandle_5 : decode cX8_isHandle 5 = .ok (.aload_n 0, 1) := by decide +kernel
theorem dX8_isHandle_6 : decode cX8_isHandle 6 = .ok (.getfield 37, 3) := by decide +kernel
theorem dX8_isHandle_9 : decode cX8_isHandle 9 = .ok (.if_icmp .ge 7, 3) := by decide +kernel
theorem dX8_isHandle_16 : decode cX8_isHandle 16 = .ok (.iconst 0, 1) := by decide +kernel
theorem dX8_isHandle_17 : decode cX8_isHandle 17 = .ok (.ireturn, 1) := by decide +kernel
theorem dX8_isThing_0 : decode cX8_isThing 0 = .ok (.iload_n 1, 1) := by decide +kernel
theorem dX8_isThing_1 : decode cX8_isThing 1 = .ok (.ifCond .lt 15, 3) := by decide +kernel
theorem dX8_isThing_4 : decode cX8_isThing 4 = .ok (.iload_n 1, 1) := by decide +kernel
theorem dX8_isThing_5 : decode cX8_isThing 5 = .ok (.aload_n 0, 1) := by decide +kernel
theorem dX8_isThing_6 : decode cX8_isThing 6 = .ok (.getfield 46, 3) := by decide +kernel
theorem dX8_isThing_9 : decode cX8_isThing 9 = .ok (.if_icmp .ge 7, 3) := by decide +kernel
theorem dX8_isThing_16 : decode cX8_isThing 16 = .ok (.iconst 0, 1) := by decide +kernel
theorem dX8_isThing_17 : decode cX8_isThing 17 = .ok (.ireturn, 1) := by decide +kernel
theorem dX8_isMissingClass_0 : decode cX8_isMissingClass 0 = .ok (.iload_n 1, 1) := by decide +kernel
theorem dX8_isMissingClass_1 : decode cX8_isMissingClass 1 = .ok (.aload_n 0, 1) := by decide +kernel
theorem dX8_isMissingClass_2 : decode cX8_isMissingClass 2 = .ok (.getfield 15, 3) := by decide +kernel
theorem dX8_isMissingClass_5 : decode cX8_isMissingClass 5 = .ok (.if_icmp .lt 7, 3) := by decide +kernel
theorem dX8_isMissingClass_8 : decode cX8_isMissingClass 8 = .ok (.iconst 1, 1) := by decide +kernel
theorem dX8_isMissingClass_9 : decode cX8_isMissingClass 9 = .ok (.goto 4, 3) := by decide +kernel
theorem dX8_isMissingClass_12 : decode cX8_isMissingClass 12 = .ok (.iconst 0, 1) := by decide +kernel
theorem dX8_isMissingClass_13 : decode cX8_isMissingClass 13 = .ok (.ireturn, 1) := by decide +kernel
theorem dX8_hasMissingClass_0 : decode cX8_hasMissingClass 0 = .ok (.aload_n 0, 1) := by decide +kernel
theorem dX8_hasMissingClass_1 : decode cX8_hasMissingClass 1 = .ok (.aload_n 1, 1) := by decide +kernel
theorem dX8_hasMissingClass_2 : decode cX8_hasMissingClass 2 = .ok (.getfield 287, 3) := by decide +kernel
theorem dX8_hasMissingClass_5 : decode cX8_hasMissingClass 5 = .ok (.invokevirtual 95, 3) := by decide +kernel
theorem dX8_hasMissingClass_8 : decode cX8_hasMissingClass 8 = .ok (.ifCond .ne 14, 3) := by decide +kernel
theorem dX8_hasMissingClass_11 : decode cX8_hasMissingClass 11 = .ok (.aload_n 0, 1) := by decide +kernel
theorem dX8_hasMissingClass_12 : decode cX8_hasMissingClass 12 = .ok (.aload_n 1, 1) := by decide +kernel
theorem dX8_hasMissingClass_13 : decode cX8_hasMissingClass 13 = .ok (.getfield 290, 3) := by decide +kernel
theorem dX8_hasMissingClass_16 : decode cX8_hasMissingClass 16 = .ok (.invokevirtual 95, 3) := by decide +kernel
theorem dX8_hasMissingClass_19 : decode cX8_hasMissingClass 19 = .ok (.ifCond .eq 7, 3) := by decide +kernel
theorem dX8_hasMissingClass_22 : decode cX8_hasMissingClass 22 = .ok (.iconst 1, 1) := by decide +kernel
theorem dX8_hasMissingClass_23 : decode cX8_hasMissingClass 23 = .ok (.goto 4, 3) := by decide +kernel
theorem dX8_hasMissingClass_26 : decode cX8_hasMissingClass 26 = .ok (.iconst 0, 1) := by decide +kernel
theorem dX8_hasMissingClass_27 : decode cX8_hasMissingClass 27 = .ok (.ireturn, 1) := by decide +kernel
theorem dX8_isOutsideName_0 : decode cX8_isOutsideName 0 = .ok (.iload_n 0, 1) := by decide +kernel
theorem dX8_isOutsideName_1 : decode cX8_isOutsideName 1 = .ok (.ifCond .lt 9, 3) := by decide +kernel
theorem dX8_isOutsideName_4 : decode cX8_isOutsideName 4 = .ok (.iload_n 0, 1) := by decide +kernel
theorem dX8_isOutsideName_5 : decode cX8_isOutsideName 5 = .ok (.bipush 19, 2) := by decide +kernel
theorem dX8_isOutsideName_7 : decode cX8_isOutsideName 7 = .ok (.if_icmp .le 7, 3) := by decide +kernel
theorem dX8_isOutsideName_10 : decode cX8_isOutsideName 10 = .ok (.iconst 1, 1) := by decide +kernel
theorem dX8_isOutsideName_11 : decode cX8_isOutsideName 11 = .ok (.goto 4, 3) := by decide +kernel
theorem dX8_isOutsideName_14 : decode cX8_isOutsideName 14 = .ok (.iconst 0, 1) := by decide +kernel
theorem dX8_isOutsideName_15 : decode cX8_isOutsideName 15 = .ok (.ireturn, 1) := by decide +kernel
theorem dX8_mayHaveAbove_0 : decode cX8_mayHaveAbove 0 = .ok (.aload_n 1, 1) := by decide +kernel
theorem dX8_mayHaveAbove_1 : decode cX8_mayHaveAbove 1 = .ok (.getfield 86, 3) := by decide +kernel
theorem dX8_mayHaveAbove_4 : decode cX8_mayHaveAbove 4 = .ok (.iconst 3, 1) := by decide +kernel
theorem dX8_mayHaveAbove_5 : decode cX8_mayHaveAbove 5 = .ok (.if_icmp .eq 11, 3) := by decide +kernel
theorem dX8_mayHaveAbove_8 : decode cX8_mayHaveAbove 8 = .ok (.aload_n 1, 1) := by decide +kernel
theorem dX8_mayHaveAbove_9 : decode cX8_mayHaveAbove 9 = .ok (.getfield 86, 3) := by decide +kernel
theorem dX8_mayHaveAbove_12 : decode cX8_mayHaveAbove 12 = .ok (.iconst 4, 1) := by decide +kernel
theorem dX8_mayHaveAbove_13 : decode cX8_mayHaveAbove 13 = .ok (.if_icmp .ne 5, 3) := by decide +kernel
theorem dX8_mayHaveAbove_18 : decode cX8_mayHaveAbove 18 = .ok (.iload_n 0, 1) := by decide +kernel
theorem dX8_mayHaveAbove_19 : decode cX8_mayHaveAbove 19 = .ok (.ifCond .eq 8, 3) := by decide +kernel
theorem dX8_mayHaveAbove_22 : decode cX8_mayHaveAbove 22 = .ok (.iload_n 0, 1) := by decide +kernel
theorem dX8_mayHaveAbove_23 : decode cX8_mayHaveAbove 23 = .ok (.iconst 1, 1) := by decide +kernel
theorem dX8_mayHaveAbove_24 : decode cX8_mayHaveAbove 24 = .ok (.if_icmp .ne 5, 3) := by decide +kernel
theorem dX8_mayHaveAbove_27 : decode cX8_mayHaveAbove 27 = .ok (.iconst 1, 1) := by decide +kernel
theorem dX8_mayHaveAbove_28 : decode cX8_mayHaveAbove 28 = .ok (.ireturn, 1) := by decide +kernel
theorem dX8_mayHaveAbove_29 : decode cX8_mayHaveAbove 29 = .ok (.aload_n 1, 1) := by decide +kernel
theorem dX8_mayHaveAbove_30 : decode cX8_mayHaveAbove 30 = .ok (.getfield 180, 3) := by decide +kernel
theorem dX8_mayHaveAbove_33 : decode cX8_mayHaveAbove 33 = .ok (.ifCond .eq 16, 3) := by decide +kernel
theorem dX8_mayHaveAbove_49 : decode cX8_mayHaveAbove 49 = .ok (.iconst 1, 1) := by decide +kernel
theorem dX8_mayHaveAbove_50 : decode cX8_mayHaveAbove 50 = .ok (.goto 4, 3) := by decide +kernel
theorem dX8_mayHaveAbove_54 : decode cX8_mayHaveAbove 54 = .ok (.ireturn, 1) := by decide +kernel
theorem dX8_mayActAs_0 : decode cX8_mayActAs 0 = .ok (.aload_n 1, 1) := by decide +kernel
theorem dX8_mayActAs_1 : decode cX8_mayActAs 1 = .ok (.ifnull 16, 3) := by decide +kernel
theorem dX8_mayActAs_4 : decode cX8_mayActAs 4 = .ok (.iload_n 0, 1) := by decide +kernel
theorem dX8_mayActAs_5 : decode cX8_mayActAs 5 = .ok (.iconst 2, 1) := by decide +kernel
theorem dX8_mayActAs_6 : decode cX8_mayActAs 6 = .ok (.if_icmp .eq 15, 3) := by decide +kernel
theorem dX8_mayActAs_9 : decode cX8_mayActAs 9 = .ok (.aload_n 1, 1) := by decide +kernel
theorem dX8_mayActAs_10 : decode cX8_mayActAs 10 = .ok (.getfield 86, 3) := by decide +kernel
theorem dX8_mayActAs_13 : decode cX8_mayActAs 13 = .ok (.iconst 2, 1) := by decide +kernel
theorem dX8_mayActAs_14 : decode cX8_mayActAs 14 = .ok (.if_icmp .ne 7, 3) := by decide +kernel
theorem dX8_mayActAs_17 : decode cX8_mayActAs 17 = .ok (.iconst 1, 1) := by decide +kernel
theorem dX8_mayActAs_18 : decode cX8_mayActAs 18 = .ok (.goto 4, 3) := by decide +kernel
theorem dX8_mayActAs_21 : decode cX8_mayActAs 21 = .ok (.iconst 0, 1) := by decide +kernel
theorem dX8_mayActAs_22 : decode cX8_mayActAs 22 = .ok (.ireturn, 1) := by decide +kernel
theorem dX8_mayHaveField_0 : decode cX8_mayHaveField 0 = .ok (.aload_n 0, 1) := by decide +kernel
theorem dX8_mayHaveField_1 : decode cX8_mayHaveField 1 = .ok (.getfield 180, 3) := by decide +kernel
theorem dX8_mayHaveField_4 : decode cX8_mayHaveField 4 = .ok (.ifCond .eq 11, 3) := by decide +kernel
theorem dX8_mayHaveField_15 : decode cX8_mayHaveField 15 = .ok (.iload_n 1, 1) := by decide +kernel
theorem dX8_mayHaveField_16 : decode cX8_mayHaveField 16 = .ok (.ireturn, 1) := by decide +kernel
theorem dX8_addMember_0 : decode cX8_addMember 0 = .ok (.aload_n 0, 1) := by decide +kernel
theorem dX8_addMember_1 : decode cX8_addMember 1 = .ok (.getfield 21, 3) := by decide +kernel
theorem dX8_addMember_4 : decode cX8_addMember 4 = .ok (.aload_n 0, 1) := by decide +kernel
theorem dX8_addMember_5 : decode cX8_addMember 5 = .ok (.getfield 25, 3) := by decide +kernel
theorem dX8_addMember_8 : decode cX8_addMember 8 = .ok (.aload_n 1, 1) := by decide +kernel
theorem dX8_addMember_9 : decode cX8_addMember 9 = .ok (.aastore, 1) := by decide +kernel
theorem dX8_addMember_10 : decode cX8_addMember 10 = .ok (.aload_n 0, 1) := by decide +kernel
theorem dX8_addMember_11 : decode cX8_addMember 11 = .ok (.dup, 1) := by decide +kernel
theorem dX8_addMember_12 : decode cX8_addMember 12 = .ok (.getfield 25, 3) := by decide +kernel
theorem dX8_addMember_15 : decode cX8_addMember 15 = .ok (.iconst 1, 1) := by decide +kernel
theorem dX8_addMember_16 : decode cX8_addMember 16 = .ok (.iadd, 1) := by decide +kernel
theorem dX8_addMember_17 : decode cX8_addMember 17 = .ok (.putfield 25, 3) := by decide +kernel
theorem dX8_addMember_20 : decode cX8_addMember 20 = .ok (.aload_n 1, 1) := by decide +kernel
theorem dX8_addMember_21 : decode cX8_addMember 21 = .ok (.getfield 175, 3) := by decide +kernel
theorem dX8_addMember_24 : decode cX8_addMember 24 = .ok (.dup, 1) := by decide +kernel
theorem dX8_addMember_25 : decode cX8_addMember 25 = .ok (.getfield 270, 3) := by decide +kernel
theorem dX8_addMember_28 : decode cX8_addMember 28 = .ok (.iconst 1, 1) := by decide +kernel
theorem dX8_addMember_29 : decode cX8_addMember 29 = .ok (.iadd, 1) := by decide +kernel
theorem dX8_addMember_30 : decode cX8_addMember 30 = .ok (.putfield 270, 3) := by decide +kernel
theorem dX8_addMember_33 : decode cX8_addMember 33 = .ok (.aload_n 0, 1) := by decide +kernel
theorem dX8_addMember_34 : decode cX8_addMember 34 = .ok (.getfield 25, 3) := by decide +kernel
theorem dX8_addMember_37 : decode cX8_addMember 37 = .ok (.iconst 1, 1) := by decide +kernel
theorem dX8_addMember_38 : decode cX8_addMember 38 = .ok (.isub, 1) := by decide +kernel
theorem dX8_addMember_39 : decode cX8_addMember 39 = .ok (.ireturn, 1) := by decide +kernel
theorem dX8_ownField_0 : decode cX8_ownField 0 = .ok (.iconst 0, 1) := by decide +kernel
theorem dX8_ownField_1 : decode cX8_ownField 1 = .ok (.istore_n 3, 1) := by decide +kernel
theorem dX8_ownField_2 : decode cX8_ownField 2 = .ok (.iload_n 3, 1) := by decide +kernel
theorem dX8_ownField_3 : decode cX8_ownField 3 = .ok (.aload_n 0, 1) := by decide +kernel
theorem dX8_ownField_4 : decode cX8_ownField 4 = .ok (.getfield 25, 3) := by decide +kernel
theorem dX8_ownField_7 : decode cX8_ownField 7 = .ok (.if_icmp .ge 52, 3) := by decide +kernel
theorem dX8_ownField_59 : decode cX8_ownField 59 = .ok (.iconst (-1), 1) := by decide +kernel
theorem dX8_ownField_60 : decode cX8_ownField 60 = .ok (.ireturn, 1) := by decide +kernel
theorem dX8_ownMethod_0 : decode cX8_ownMethod 0 = .ok (.iconst 0, 1) := by decide +kernel
theorem dX8_ownMethod_1 : decode cX8_ownMethod 1 = .ok (.istore_n 3, 1) := by decide +kernel
theorem dX8_ownMethod_2 : decode cX8_ownMethod 2 = .ok (.iload_n 3, 1) := by decide +kernel
theorem dX8_ownMethod_3 : decode cX8_ownMethod 3 = .ok (.aload_n 0, 1) := by decide +kernel
theorem dX8_ownMethod_4 : decode cX8_ownMethod 4 = .ok (.getfield 25, 3) := by decide +kernel
theorem dX8_ownMethod_7 : decode cX8_ownMethod 7 = .ok (.if_icmp .ge 55, 3) := by decide +kernel
theorem dX8_ownMethod_62 : decode cX8_ownMethod 62 = .ok (.iconst (-1), 1) := by decide +kernel
theorem dX8_ownMethod_63 : decode cX8_ownMethod 63 = .ok (.ireturn, 1) := by decide +kernel
theorem dX8_visibleField_0 : decode cX8_visibleField 0 = .ok (.aload_n 1, 1) := by decide +kernel
theorem dX8_visibleField_1 : decode cX8_visibleField 1 = .ok (.astore_n 3, 1) := by decide +kernel
theorem dX8_visibleField_2 : decode cX8_visibleField 2 = .ok (.aload_n 3, 1) := by decide +kernel
theorem dX8_visibleField_3 : decode cX8_visibleField 3 = .ok (.ifnull 41, 3) := by decide +kernel
theorem dX8_visibleField_6 : decode cX8_visibleField 6 = .ok (.aload_n 0, 1) := by decide +kernel
theorem dX8_visibleField_7 : decode cX8_visibleField 7 = .ok (.aload_n 3, 1) := by decide +kernel
theorem dX8_visibleField_8 : decode cX8_visibleField 8 = .ok (.iload_n 2, 1) := by decide +kernel
theorem dX8_visibleField_9 : decode cX8_visibleField 9 = .ok (.invokevirtual 105, 3) := by decide +kernel
theorem dX8_visibleField_12 : decode cX8_visibleField 12 = .ok (.istore 4, 2) := by decide +kernel
theorem dX8_visibleField_14 : decode cX8_visibleField 14 = .ok (.iload 4, 2) := by decide +kernel
theorem dX8_visibleField_16 : decode cX8_visibleField 16 = .ok (.iconst (-1), 1) := by decide +kernel
theorem dX8_visibleField_17 : decode cX8_visibleField 17 = .ok (.if_icmp .eq 19, 3) := by decide +kernel
theorem dX8_visibleField_36 : decode cX8_visibleField 36 = .ok (.aload_n 3, 1) := by decide +kernel
theorem dX8_visibleField_37 : decode cX8_visibleField 37 = .ok (.getfield 264, 3) := by decide +kernel
theorem dX8_visibleField_40 : decode cX8_visibleField 40 = .ok (.astore_n 3, 1) := by decide +kernel
theorem dX8_visibleField_41 : decode cX8_visibleField 41 = .ok (.goto (-39), 3) := by decide +kernel
theorem dX8_visibleField_44 : decode cX8_visibleField 44 = .ok (.iconst (-1), 1) := by decide +kernel
theorem dX8_visibleField_45 : decode cX8_visibleField 45 = .ok (.ireturn, 1) := by decide +kernel
theorem dX8_visibleMethod_0 : decode cX8_visibleMethod 0 = .ok (.aload_n 0, 1) := by decide +kernel
theorem dX8_visibleMethod_1 : decode cX8_visibleMethod 1 = .ok (.aload_n 1, 1) := by decide +kernel
theorem dX8_visibleMethod_2 : decode cX8_visibleMethod 2 = .ok (.aload_n 2, 1) := by decide +kernel
theorem dX8_visibleMethod_3 : decode cX8_visibleMethod 3 = .ok (.invokevirtual 336, 3) := by decide +kernel
theorem dX8_visibleMethod_6 : decode cX8_visibleMethod 6 = .ok (.istore_n 3, 1) := by decide +kernel
theorem dX8_visibleMethod_7 : decode cX8_visibleMethod 7 = .ok (.aload_n 1, 1) := by decide +kernel
theorem dX8_visibleMethod_8 : decode cX8_visibleMethod 8 = .ok (.astore 4, 2) := by decide +kernel
theorem dX8_visibleMethod_10 : decode cX8_visibleMethod 10 = .ok (.aload 4, 2) := by decide +kernel
theorem dX8_visibleMethod_12 : decode cX8_visibleMethod 12 = .ok (.ifnull 29, 3) := by decide +kernel
theorem dX8_visibleMethod_15 : decode cX8_visibleMethod 15 = .ok (.iload_n 3, 1) := by decide +kernel
theorem dX8_visibleMethod_16 : decode cX8_visibleMethod 16 = .ok (.iconst (-1), 1) := by decide +kernel
theorem dX8_visibleMethod_17 : decode cX8_visibleMethod 17 = .ok (.if_icmp .ne 24, 3) := by decide +kernel
theorem dX8_visibleMethod_20 : decode cX8_visibleMethod 20 = .ok (.aload_n 0, 1) := by decide +kernel
theorem dX8_visibleMethod_21 : decode cX8_visibleMethod 21 = .ok (.aload 4, 2) := by decide +kernel
theorem dX8_visibleMethod_23 : decode cX8_visibleMethod 23 = .ok (.getfield 267, 3) := by decide +kernel
theorem dX8_visibleMethod_26 : decode cX8_visibleMethod 26 = .ok (.aload_n 2, 1) := by decide +kernel
theorem dX8_visibleMethod_27 : decode cX8_visibleMethod 27 = .ok (.invokevirtual 336, 3) := by decide +kernel
theorem dX8_visibleMethod_30 : decode cX8_visibleMethod 30 = .ok (.istore_n 3, 1) := by decide +kernel
theorem dX8_visibleMethod_31 : decode cX8_visibleMethod 31 = .ok (.aload 4, 2) := by decide +kernel
theorem dX8_visibleMethod_33 : decode cX8_visibleMethod 33 = .ok (.getfield 264, 3) := by decide +kernel
theorem dX8_visibleMethod_36 : decode cX8_visibleMethod 36 = .ok (.astore 4, 2) := by decide +kernel
theorem dX8_visibleMethod_38 : decode cX8_visibleMethod 38 = .ok (.goto (-28), 3) := by decide +kernel
theorem dX8_visibleMethod_41 : decode cX8_visibleMethod 41 = .ok (.iload_n 3, 1) := by decide +kernel
theorem dX8_visibleMethod_42 : decode cX8_visibleMethod 42 = .ok (.ireturn, 1) := by decide +kernel
theorem dX8_visibleMethodUpward_0 : decode cX8_visibleMethodUpward 0 = .ok (.aload_n 1, 1) := by decide +kernel
theorem dX8_visibleMethodUpward_1 : decode cX8_visibleMethodUpward 1 = .ok (.astore_n 3, 1) := by decide +kernel
theorem dX8_visibleMethodUpward_2 : decode cX8_visibleMethodUpward 2 = .ok (.aload_n 3, 1) := by decide +kernel
theorem dX8_visibleMethodUpward_3 : decode cX8_visibleMethodUpward 3 = .ok (.ifnull 41, 3) := by decide +kernel
theorem dX8_visibleMethodUpward_6 : decode cX8_visibleMethodUpward 6 = .ok (.aload_n 0, 1) := by decide +kernel
theorem dX8_visibleMethodUpward_7 : decode cX8_visibleMethodUpward 7 = .ok (.aload_n 3, 1) := by decide +kernel
theorem dX8_visibleMethodUpward_8 : decode cX8_visibleMethodUpward 8 = .ok (.aload_n 2, 1) := by decide +kernel
theorem dX8_visibleMethodUpward_9 : decode cX8_visibleMethodUpward 9 = .ok (.invokevirtual 154, 3) := by decide +kernel
theorem dX8_visibleMethodUpward_12 : decode cX8_visibleMethodUpward 12 = .ok (.istore 4, 2) := by decide +kernel
theorem dX8_visibleMethodUpward_14 : decode cX8_visibleMethodUpward 14 = .ok (.iload 4, 2) := by decide +kernel
theorem dX8_visibleMethodUpward_16 : decode cX8_visibleMethodUpward 16 = .ok (.iconst (-1), 1) := by decide +kernel
theorem dX8_visibleMethodUpward_17 : decode cX8_visibleMethodUpward 17 = .ok (.if_icmp .eq 19, 3) := by decide +kernel
theorem dX8_visibleMethodUpward_36 : decode cX8_visibleMethodUpward 36 = .ok (.aload_n 3, 1) := by decide +kernel
theorem dX8_visibleMethodUpward_37 : decode cX8_visibleMethodUpward 37 = .ok (.getfield 264, 3) := by decide +kernel
theorem dX8_visibleMethodUpward_40 : decode cX8_visibleMethodUpward 40 = .ok (.astore_n 3, 1) := by decide +kernel
theorem dX8_visibleMethodUpward_41 : decode cX8_visibleMethodUpward 41 = .ok (.goto (-39), 3) := by decide +kernel
theorem dX8_visibleMethodUpward_44 : decode cX8_visibleMethodUpward 44 = .ok (.iconst (-1), 1) := by decide +kernel
theorem dX8_visibleMethodUpward_45 : decode cX8_visibleMethodUpward 45 = .ok (.ireturn, 1) := by decide +kernel
theorem dX8_addHandle_0 : decode cX8_addHandle 0 = .ok (.iload_n 1, 1) := by decide +kernel
theorem dX8_addHandle_1 : decode cX8_addHandle 1 = .ok (.iconst (-1), 1) := by decide +kernel
theorem dX8_addHandle_2 : decode cX8_addHandle 2 = .ok (.if_icmp .ne 9, 3) := by decide +kernel
theorem dX8_addHandle_5 : decode cX8_addHandle 5 = .ok (.aload_n 0, 1) := by decide +kernel
theorem dX8_addHandle_6 : decode cX8_addHandle 6 = .ok (.iconst 1, 1) := by decide +kernel
theorem dX8_addHandle_7 : decode cX8_addHandle 7 = .ok (.invokevirtual 183, 3) := by decide +kernel
theorem dX8_addHandle_10 : decode cX8_addHandle 10 = .ok (.ireturn, 1) := by decide +kernel
theorem dX8_failed_0 : decode cX8_failed 0 = .ok (.aload_n 0, 1) := by decide +kernel
theorem dX8_failed_1 : decode cX8_failed 1 = .ok (.iload_n 1, 1) := by decide +kernel
theorem dX8_failed_2 : decode cX8_failed 2 = .ok (.putfield 66, 3) := by decide +kernel
theorem dX8_failed_5 : decode cX8_failed 5 = .ok (.bipush (-10), 2) := by decide +kernel
theorem dX8_failed_7 : decode cX8_failed 7 = .ok (.iload_n 1, 1) := by decide +kernel
theorem dX8_failed_8 : decode cX8_failed 8 = .ok (.isub, 1) := by decide +kernel
theorem dX8_failed_9 : decode cX8_failed 9 = .ok (.ireturn, 1) := by decide +kernel
