theorem dX7_with_397 : decode cX7_with 397 = .ok (.ifCond .eq 7, 3) := by decide +kernel
theorem dX7_with_400 : decode cX7_with 400 = .ok (.iconst 1, 1) := by decide +kernel
theorem dX7_with_401 : decode cX7_with 401 = .ok (.goto 4, 3) := by decide +kernel
theorem dX7_with_404 : decode cX7_with 404 = .ok (.iconst 0, 1) := by decide +kernel
theorem dX7_with_405 : decode cX7_with 405 = .ok (.istore 7, 2) := by decide +kernel
theorem dX7_with_407 : decode cX7_with 407 = .ok (.aload_n 0, 1) := by decide +kernel
theorem dX7_with_408 : decode cX7_with 408 = .ok (.iload 7, 2) := by decide +kernel
theorem dX7_with_410 : decode cX7_with 410 = .ok (.ifCond .eq 7, 3) := by decide +kernel
theorem dX7_with_413 : decode cX7_with 413 = .ok (.iconst 0, 1) := by decide +kernel
theorem dX7_with_414 : decode cX7_with 414 = .ok (.goto 4, 3) := by decide +kernel
theorem dX7_with_417 : decode cX7_with 417 = .ok (.iconst 3, 1) := by decide +kernel
theorem dX7_with_418 : decode cX7_with 418 = .ok (.putfield 41, 3) := by decide +kernel
theorem dX7_with_421 : decode cX7_with 421 = .ok (.aload_n 0, 1) := by decide +kernel
theorem dX7_with_422 : decode cX7_with 422 = .ok (.getfield 7, 3) := by decide +kernel
theorem dX7_with_425 : decode cX7_with 425 = .ok (.iload_n 1, 1) := by decide +kernel
theorem dX7_with_426 : decode cX7_with 426 = .ok (.iload 7, 2) := by decide +kernel
theorem dX7_with_428 : decode cX7_with 428 = .ok (.ifCond .eq 8, 3) := by decide +kernel
theorem dX7_with_431 : decode cX7_with 431 = .ok (.lload 8, 2) := by decide +kernel
theorem dX7_with_433 : decode cX7_with 433 = .ok (.goto 5, 3) := by decide +kernel
theorem dX7_with_436 : decode cX7_with 436 = .ok (.lload 5, 2) := by decide +kernel
theorem dX7_with_438 : decode cX7_with 438 = .ok (.lastore, 1) := by decide +kernel
theorem dX7_with_439 : decode cX7_with 439 = .ok (.return_, 1) := by decide +kernel
theorem dX7_withTime_0 : decode cX7_withTime 0 = .ok (.iload_n 2, 1) := by decide +kernel
theorem dX7_withTime_1 : decode cX7_withTime 1 = .ok (.bipush 6, 2) := by decide +kernel
theorem dX7_withTime_3 : decode cX7_withTime 3 = .ok (.if_icmp .ne 9, 3) := by decide +kernel
theorem dX7_withTime_6 : decode cX7_withTime 6 = .ok (.ldc2_w 146, 3) := by decide +kernel
theorem dX7_withTime_9 : decode cX7_withTime 9 = .ok (.goto 34, 3) := by decide +kernel
theorem dX7_withTime_12 : decode cX7_withTime 12 = .ok (.iload_n 2, 1) := by decide +kernel
theorem dX7_withTime_13 : decode cX7_withTime 13 = .ok (.bipush 7, 2) := by decide +kernel
theorem dX7_withTime_15 : decode cX7_withTime 15 = .ok (.if_icmp .ne 9, 3) := by decide +kernel
theorem dX7_withTime_18 : decode cX7_withTime 18 = .ok (.ldc2_w 148, 3) := by decide +kernel
theorem dX7_withTime_21 : decode cX7_withTime 21 = .ok (.goto 22, 3) := by decide +kernel
theorem dX7_withTime_24 : decode cX7_withTime 24 = .ok (.iload_n 2, 1) := by decide +kernel
theorem dX7_withTime_25 : decode cX7_withTime 25 = .ok (.bipush 8, 2) := by decide +kernel
theorem dX7_withTime_27 : decode cX7_withTime 27 = .ok (.if_icmp .eq 9, 3) := by decide +kernel
theorem dX7_withTime_30 : decode cX7_withTime 30 = .ok (.iload_n 2, 1) := by decide +kernel
theorem dX7_withTime_31 : decode cX7_withTime 31 = .ok (.bipush 10, 2) := by decide +kernel
theorem dX7_withTime_33 : decode cX7_withTime 33 = .ok (.if_icmp .ne 9, 3) := by decide +kernel
theorem dX7_withTime_36 : decode cX7_withTime 36 = .ok (.ldc2_w 134, 3) := by decide +kernel
theorem dX7_withTime_39 : decode cX7_withTime 39 = .ok (.goto 4, 3) := by decide +kernel
theorem dX7_withTime_42 : decode cX7_withTime 42 = .ok (.lconst 1, 1) := by decide +kernel
theorem dX7_withTime_43 : decode cX7_withTime 43 = .ok (.lstore 5, 2) := by decide +kernel
theorem dX7_withTime_45 : decode cX7_withTime 45 = .ok (.iload_n 2, 1) := by decide +kernel
theorem dX7_withTime_46 : decode cX7_withTime 46 = .ok (.bipush 6, 2) := by decide +kernel
theorem dX7_withTime_48 : decode cX7_withTime 48 = .ok (.if_icmp .ne 9, 3) := by decide +kernel
theorem dX7_withTime_51 : decode cX7_withTime 51 = .ok (.ldc2_w 169, 3) := by decide +kernel
theorem dX7_withTime_54 : decode cX7_withTime 54 = .ok (.goto 48, 3) := by decide +kernel
theorem dX7_withTime_57 : decode cX7_withTime 57 = .ok (.iload_n 2, 1) := by decide +kernel
theorem dX7_withTime_58 : decode cX7_withTime 58 = .ok (.bipush 7, 2) := by decide +kernel
theorem dX7_withTime_60 : decode cX7_withTime 60 = .ok (.if_icmp .eq 9, 3) := by decide +kernel
theorem dX7_withTime_63 : decode cX7_withTime 63 = .ok (.iload_n 2, 1) := by decide +kernel
theorem dX7_withTime_64 : decode cX7_withTime 64 = .ok (.bipush 8, 2) := by decide +kernel
theorem dX7_withTime_66 : decode cX7_withTime 66 = .ok (.if_icmp .ne 9, 3) := by decide +kernel
theorem dX7_withTime_69 : decode cX7_withTime 69 = .ok (.ldc2_w 150, 3) := by decide +kernel
theorem dX7_withTime_72 : decode cX7_withTime 72 = .ok (.goto 30, 3) := by decide +kernel
theorem dX7_withTime_75 : decode cX7_withTime 75 = .ok (.iload_n 2, 1) := by decide +kernel
theorem dX7_withTime_76 : decode cX7_withTime 76 = .ok (.bipush 9, 2) := by decide +kernel
theorem dX7_withTime_78 : decode cX7_withTime 78 = .ok (.if_icmp .ne 9, 3) := by decide +kernel
theorem dX7_withTime_81 : decode cX7_withTime 81 = .ok (.ldc2_w 134, 3) := by decide +kernel
theorem dX7_withTime_84 : decode cX7_withTime 84 = .ok (.goto 18, 3) := by decide +kernel
theorem dX7_withTime_87 : decode cX7_withTime 87 = .ok (.iload_n 2, 1) := by decide +kernel
theorem dX7_withTime_88 : decode cX7_withTime 88 = .ok (.bipush 10, 2) := by decide +kernel
theorem dX7_withTime_90 : decode cX7_withTime 90 = .ok (.if_icmp .ne 9, 3) := by decide +kernel
theorem dX7_withTime_93 : decode cX7_withTime 93 = .ok (.ldc2_w 171, 3) := by decide +kernel
theorem dX7_withTime_96 : decode cX7_withTime 96 = .ok (.goto 6, 3) := by decide +kernel
theorem dX7_withTime_99 : decode cX7_withTime 99 = .ok (.ldc2_w 173, 3) := by decide +kernel
theorem dX7_withTime_102 : decode cX7_withTime 102 = .ok (.lstore 7, 2) := by decide +kernel
theorem dX7_withTime_104 : decode cX7_withTime 104 = .ok (.aload_n 0, 1) := by decide +kernel
theorem dX7_withTime_105 : decode cX7_withTime 105 = .ok (.lload_n 3, 1) := by decide +kernel
theorem dX7_withTime_106 : decode cX7_withTime 106 = .ok (.lconst 0, 1) := by decide +kernel
theorem dX7_withTime_107 : decode cX7_withTime 107 = .ok (.lload 7, 2) := by decide +kernel
theorem dX7_withTime_109 : decode cX7_withTime 109 = .ok (.lconst 1, 1) := by decide +kernel
theorem dX7_withTime_110 : decode cX7_withTime 110 = .ok (.lsub, 1) := by decide +kernel
theorem dX7_withTime_111 : decode cX7_withTime 111 = .ok (.invokestatic 102, 3) := by decide +kernel
theorem dX7_withTime_114 : decode cX7_withTime 114 = .ok (.ifCond .eq 7, 3) := by decide +kernel
theorem dX7_withTime_117 : decode cX7_withTime 117 = .ok (.iconst 0, 1) := by decide +kernel
theorem dX7_withTime_118 : decode cX7_withTime 118 = .ok (.goto 4, 3) := by decide +kernel
theorem dX7_withTime_121 : decode cX7_withTime 121 = .ok (.iconst 3, 1) := by decide +kernel
theorem dX7_withTime_122 : decode cX7_withTime 122 = .ok (.putfield 41, 3) := by decide +kernel
theorem dX7_withTime_125 : decode cX7_withTime 125 = .ok (.aload_n 0, 1) := by decide +kernel
theorem dX7_withTime_126 : decode cX7_withTime 126 = .ok (.getfield 41, 3) := by decide +kernel
theorem dX7_withTime_129 : decode cX7_withTime 129 = .ok (.ifCond .ne 27, 3) := by decide +kernel
theorem dX7_withTime_132 : decode cX7_withTime 132 = .ok (.aload_n 0, 1) := by decide +kernel
theorem dX7_withTime_133 : decode cX7_withTime 133 = .ok (.getfield 13, 3) := by decide +kernel
theorem dX7_withTime_136 : decode cX7_withTime 136 = .ok (.iload_n 1, 1) := by decide +kernel
theorem dX7_withTime_137 : decode cX7_withTime 137 = .ok (.dup2, 1) := by decide +kernel
theorem dX7_withTime_138 : decode cX7_withTime 138 = .ok (.laload, 1) := by decide +kernel
theorem dX7_withTime_139 : decode cX7_withTime 139 = .ok (.lload_n 3, 1) := by decide +kernel
theorem dX7_withTime_140 : decode cX7_withTime 140 = .ok (.aload_n 0, 1) := by decide +kernel
theorem dX7_withTime_141 : decode cX7_withTime 141 = .ok (.getfield 13, 3) := by decide +kernel
theorem dX7_withTime_144 : decode cX7_withTime 144 = .ok (.iload_n 1, 1) := by decide +kernel
theorem dX7_withTime_145 : decode cX7_withTime 145 = .ok (.laload, 1) := by decide +kernel
theorem dX7_withTime_146 : decode cX7_withTime 146 = .ok (.iload_n 2, 1) := by decide +kernel
theorem dX7_withTime_147 : decode cX7_withTime 147 = .ok (.invokestatic 142, 3) := by decide +kernel
theorem dX7_withTime_150 : decode cX7_withTime 150 = .ok (.lsub, 1) := by decide +kernel
theorem dX7_withTime_151 : decode cX7_withTime 151 = .ok (.lload 5, 2) := by decide +kernel
theorem dX7_withTime_153 : decode cX7_withTime 153 = .ok (.lmul, 1) := by decide +kernel
theorem dX7_withTime_154 : decode cX7_withTime 154 = .ok (.ladd, 1) := by decide +kernel
theorem dX7_withTime_155 : decode cX7_withTime 155 = .ok (.lastore, 1) := by decide +kernel
theorem dX7_withTime_156 : decode cX7_withTime 156 = .ok (.return_, 1) := by decide +kernel
theorem dX7_nanosOf_0 : decode cX7_nanosOf 0 = .ok (.iload_n 0, 1) := by decide +kernel
theorem dX7_nanosOf_1 : decode cX7_nanosOf 1 = .ok (.iconst 3, 1) := by decide +kernel
theorem dX7_nanosOf_2 : decode cX7_nanosOf 2 = .ok (.if_icmp .ge 26, 3) := by decide +kernel
theorem dX7_nanosOf_5 : decode cX7_nanosOf 5 = .ok (.iload_n 0, 1) := by decide +kernel
theorem dX7_nanosOf_6 : decode cX7_nanosOf 6 = .ok (.ifCond .ne 7, 3) := by decide +kernel
theorem dX7_nanosOf_9 : decode cX7_nanosOf 9 = .ok (.lconst 1, 1) := by decide +kernel
theorem dX7_nanosOf_10 : decode cX7_nanosOf 10 = .ok (.goto 17, 3) := by decide +kernel
theorem dX7_nanosOf_13 : decode cX7_nanosOf 13 = .ok (.iload_n 0, 1) := by decide +kernel
theorem dX7_nanosOf_14 : decode cX7_nanosOf 14 = .ok (.iconst 1, 1) := by decide +kernel
theorem dX7_nanosOf_15 : decode cX7_nanosOf 15 = .ok (.if_icmp .ne 9, 3) := by decide +kernel
theorem dX7_nanosOf_18 : decode cX7_nanosOf 18 = .ok (.ldc2_w 175, 3) := by decide +kernel
theorem dX7_nanosOf_21 : decode cX7_nanosOf 21 = .ok (.goto 6, 3) := by decide +kernel
theorem dX7_nanosOf_24 : decode cX7_nanosOf 24 = .ok (.ldc2_w 156, 3) := by decide +kernel
theorem dX7_nanosOf_27 : decode cX7_nanosOf 27 = .ok (.lreturn, 1) := by decide +kernel
theorem dX7_nanosOf_28 : decode cX7_nanosOf 28 = .ok (.iload_n 0, 1) := by decide +kernel
theorem dX7_nanosOf_29 : decode cX7_nanosOf 29 = .ok (.iconst 3, 1) := by decide +kernel
theorem dX7_nanosOf_30 : decode cX7_nanosOf 30 = .ok (.if_icmp .ne 9, 3) := by decide +kernel
theorem dX7_nanosOf_33 : decode cX7_nanosOf 33 = .ok (.ldc2_w 134, 3) := by decide +kernel
theorem dX7_nanosOf_36 : decode cX7_nanosOf 36 = .ok (.goto 52, 3) := by decide +kernel
theorem dX7_nanosOf_39 : decode cX7_nanosOf 39 = .ok (.iload_n 0, 1) := by decide +kernel
theorem dX7_nanosOf_40 : decode cX7_nanosOf 40 = .ok (.iconst 4, 1) := by decide +kernel
theorem dX7_nanosOf_41 : decode cX7_nanosOf 41 = .ok (.if_icmp .ne 9, 3) := by decide +kernel
theorem dX7_nanosOf_44 : decode cX7_nanosOf 44 = .ok (.ldc2_w 148, 3) := by decide +kernel
theorem dX7_nanosOf_47 : decode cX7_nanosOf 47 = .ok (.goto 41, 3) := by decide +kernel
theorem dX7_nanosOf_50 : decode cX7_nanosOf 50 = .ok (.iload_n 0, 1) := by decide +kernel
theorem dX7_nanosOf_51 : decode cX7_nanosOf 51 = .ok (.iconst 5, 1) := by decide +kernel
theorem dX7_nanosOf_52 : decode cX7_nanosOf 52 = .ok (.if_icmp .ne 9, 3) := by decide +kernel
theorem dX7_nanosOf_55 : decode cX7_nanosOf 55 = .ok (.ldc2_w 146, 3) := by decide +kernel
theorem dX7_nanosOf_58 : decode cX7_nanosOf 58 = .ok (.goto 30, 3) := by decide +kernel
theorem dX7_nanosOf_61 : decode cX7_nanosOf 61 = .ok (.iload_n 0, 1) := by decide +kernel
theorem dX7_nanosOf_62 : decode cX7_nanosOf 62 = .ok (.bipush 6, 2) := by decide +kernel
theorem dX7_nanosOf_64 : decode cX7_nanosOf 64 = .ok (.if_icmp .ne 9, 3) := by decide +kernel
theorem dX7_nanosOf_67 : decode cX7_nanosOf 67 = .ok (.ldc2_w 177, 3) := by decide +kernel
theorem dX7_nanosOf_70 : decode cX7_nanosOf 70 = .ok (.goto 18, 3) := by decide +kernel
theorem dX7_nanosOf_73 : decode cX7_nanosOf 73 = .ok (.iload_n 0, 1) := by decide +kernel
theorem dX7_nanosOf_74 : decode cX7_nanosOf 74 = .ok (.bipush 7, 2) := by decide +kernel
theorem dX7_nanosOf_76 : decode cX7_nanosOf 76 = .ok (.if_icmp .ne 9, 3) := by decide +kernel
theorem dX7_nanosOf_79 : decode cX7_nanosOf 79 = .ok (.ldc2_w 173, 3) := by decide +kernel
theorem dX7_nanosOf_82 : decode cX7_nanosOf 82 = .ok (.goto 6, 3) := by decide +kernel
theorem dX7_nanosOf_85 : decode cX7_nanosOf 85 = .ok (.ldc2_w 179, 3) := by decide +kernel
theorem dX7_nanosOf_88 : decode cX7_nanosOf 88 = .ok (.lreturn, 1) := by decide +kernel
theorem dX7_monthsOfUnit_0 : decode cX7_monthsOfUnit 0 = .ok (.iload_n 0, 1) := by decide +kernel
theorem dX7_monthsOfUnit_1 : decode cX7_monthsOfUnit 1 = .ok (.bipush 9, 2) := by decide +kernel
theorem dX7_monthsOfUnit_3 : decode cX7_monthsOfUnit 3 = .ok (.if_icmp .ne 7, 3) := by decide +kernel
theorem dX7_monthsOfUnit_6 : decode cX7_monthsOfUnit 6 = .ok (.lconst 1, 1) := by decide +kernel
theorem dX7_monthsOfUnit_7 : decode cX7_monthsOfUnit 7 = .ok (.goto 42, 3) := by decide +kernel
theorem dX7_monthsOfUnit_10 : decode cX7_monthsOfUnit 10 = .ok (.iload_n 0, 1) := by decide +kernel
theorem dX7_monthsOfUnit_11 : decode cX7_monthsOfUnit 11 = .ok (.bipush 10, 2) := by decide +kernel
theorem dX7_monthsOfUnit_13 : decode cX7_monthsOfUnit 13 = .ok (.if_icmp .ne 9, 3) := by decide +kernel
theorem dX7_monthsOfUnit_16 : decode cX7_monthsOfUnit 16 = .ok (.ldc2_w 90, 3) := by decide +kernel
theorem dX7_monthsOfUnit_19 : decode cX7_monthsOfUnit 19 = .ok (.goto 30, 3) := by decide +kernel
theorem dX7_monthsOfUnit_22 : decode cX7_monthsOfUnit 22 = .ok (.iload_n 0, 1) := by decide +kernel
theorem dX7_monthsOfUnit_23 : decode cX7_monthsOfUnit 23 = .ok (.bipush 11, 2) := by decide +kernel
theorem dX7_monthsOfUnit_25 : decode cX7_monthsOfUnit 25 = .ok (.if_icmp .ne 9, 3) := by decide +kernel
theorem dX7_monthsOfUnit_28 : decode cX7_monthsOfUnit 28 = .ok (.ldc2_w 110, 3) := by decide +kernel
theorem dX7_monthsOfUnit_31 : decode cX7_monthsOfUnit 31 = .ok (.goto 18, 3) := by decide +kernel
theorem dX7_monthsOfUnit_34 : decode cX7_monthsOfUnit 34 = .ok (.iload_n 0, 1) := by decide +kernel
theorem dX7_monthsOfUnit_35 : decode cX7_monthsOfUnit 35 = .ok (.bipush 12, 2) := by decide +kernel
theorem dX7_monthsOfUnit_37 : decode cX7_monthsOfUnit 37 = .ok (.if_icmp .ne 9, 3) := by decide +kernel
theorem dX7_monthsOfUnit_40 : decode cX7_monthsOfUnit 40 = .ok (.ldc2_w 181, 3) := by decide +kernel
theorem dX7_monthsOfUnit_43 : decode cX7_monthsOfUnit 43 = .ok (.goto 6, 3) := by decide +kernel
theorem dX7_monthsOfUnit_46 : decode cX7_monthsOfUnit 46 = .ok (.ldc2_w 183, 3) := by decide +kernel
theorem dX7_monthsOfUnit_49 : decode cX7_monthsOfUnit 49 = .ok (.lreturn, 1) := by decide +kernel
theorem dX7_plus_0 : decode cX7_plus 0 = .ok (.aload_n 0, 1) := by decide +kernel
theorem dX7_plus_1 : decode cX7_plus 1 = .ok (.iload_n 1, 1) := by decide +kernel
theorem dX7_plus_2 : decode cX7_plus 2 = .ok (.invokevirtual 120, 3) := by decide +kernel
theorem dX7_plus_5 : decode cX7_plus 5 = .ok (.ifCond .ne 4, 3) := by decide +kernel
theorem dX7_plus_8 : decode cX7_plus 8 = .ok (.return_, 1) := by decide +kernel
theorem dX7_plus_9 : decode cX7_plus 9 = .ok (.aload_n 0, 1) := by decide +kernel
theorem dX7_plus_10 : decode cX7_plus 10 = .ok (.iload 4, 2) := by decide +kernel
theorem dX7_plus_12 : decode cX7_plus 12 = .ok (.i2l, 1) := by decide +kernel
theorem dX7_plus_13 : decode cX7_plus 13 = .ok (.lconst 0, 1) := by decide +kernel
theorem dX7_plus_14 : decode cX7_plus 14 = .ok (.ldc2_w 185, 3) := by decide +kernel
theorem dX7_plus_17 : decode cX7_plus 17 = .ok (.invokestatic 102, 3) := by decide +kernel
theorem dX7_plus_20 : decode cX7_plus 20 = .ok (.ifCond .ne 7, 3) := by decide +kernel
theorem dX7_plus_23 : decode cX7_plus 23 = .ok (.iconst 2, 1) := by decide +kernel
theorem dX7_plus_24 : decode cX7_plus 24 = .ok (.goto 28, 3) := by decide +kernel
theorem dX7_plus_27 : decode cX7_plus 27 = .ok (.iload 4, 2) := by decide +kernel
theorem dX7_plus_29 : decode cX7_plus 29 = .ok (.bipush 6, 2) := by decide +kernel
theorem dX7_plus_31 : decode cX7_plus 31 = .ok (.if_icmp .le 20, 3) := by decide +kernel
theorem dX7_plus_34 : decode cX7_plus 34 = .ok (.lload_n 2, 1) := by decide +kernel
theorem dX7_plus_35 : decode cX7_plus 35 = .ok (.ldc2_w 187, 3) := by decide +kernel
theorem dX7_plus_38 : decode cX7_plus 38 = .ok (.ldc2_w 189, 3) := by decide +kernel
theorem dX7_plus_41 : decode cX7_plus 41 = .ok (.invokestatic 102, 3) := by decide +kernel
theorem dX7_plus_44 : decode cX7_plus 44 = .ok (.ifCond .ne 7, 3) := by decide +kernel
theorem dX7_plus_47 : decode cX7_plus 47 = .ok (.iconst 3, 1) := by decide +kernel
theorem dX7_plus_48 : decode cX7_plus 48 = .ok (.goto 4, 3) := by decide +kernel
theorem dX7_plus_51 : decode cX7_plus 51 = .ok (.iconst 0, 1) := by decide +kernel
theorem dX7_plus_52 : decode cX7_plus 52 = .ok (.putfield 41, 3) := by decide +kernel
theorem dX7_plus_55 : decode cX7_plus 55 = .ok (.aload_n 0, 1) := by decide +kernel
theorem dX7_plus_56 : decode cX7_plus 56 = .ok (.getfield 41, 3) := by decide +kernel
theorem dX7_plus_59 : decode cX7_plus 59 = .ok (.ifCond .le 4, 3) := by decide +kernel
theorem dX7_plus_62 : decode cX7_plus 62 = .ok (.return_, 1) := by decide +kernel
theorem dX7_plus_63 : decode cX7_plus 63 = .ok (.aload_n 0, 1) := by decide +kernel
theorem dX7_plus_64 : decode cX7_plus 64 = .ok (.getfield 7, 3) := by decide +kernel
theorem dX7_plus_67 : decode cX7_plus 67 = .ok (.iload_n 1, 1) := by decide +kernel
theorem dX7_plus_68 : decode cX7_plus 68 = .ok (.laload, 1) := by decide +kernel
theorem dX7_plus_69 : decode cX7_plus 69 = .ok (.lstore 5, 2) := by decide +kernel
theorem dX7_plus_71 : decode cX7_plus 71 = .ok (.iload 4, 2) := by decide +kernel
theorem dX7_plus_73 : decode cX7_plus 73 = .ok (.bipush 8, 2) := by decide +kernel
theorem dX7_plus_75 : decode cX7_plus 75 = .ok (.if_icmp .le 63, 3) := by decide +kernel
theorem dX7_plus_78 : decode cX7_plus 78 = .ok (.aload_n 0, 1) := by decide +kernel
theorem dX7_plus_79 : decode cX7_plus 79 = .ok (.lload 5, 2) := by decide +kernel
theorem dX7_plus_81 : decode cX7_plus 81 = .ok (.invokevirtual 191, 3) := by decide +kernel
theorem dX7_plus_84 : decode cX7_plus 84 = .ok (.lload_n 2, 1) := by decide +kernel
theorem dX7_plus_85 : decode cX7_plus 85 = .ok (.iload 4, 2) := by decide +kernel
theorem dX7_plus_87 : decode cX7_plus 87 = .ok (.invokestatic 195, 3) := by decide +kernel
theorem dX7_plus_90 : decode cX7_plus 90 = .ok (.lmul, 1) := by decide +kernel
theorem dX7_plus_91 : decode cX7_plus 91 = .ok (.ladd, 1) := by decide +kernel
theorem dX7_plus_92 : decode cX7_plus 92 = .ok (.lstore 7, 2) := by decide +kernel
theorem dX7_plus_94 : decode cX7_plus 94 = .ok (.aload_n 0, 1) := by decide +kernel
theorem dX7_plus_95 : decode cX7_plus 95 = .ok (.lload 7, 2) := by decide +kernel
theorem dX7_plus_97 : decode cX7_plus 97 = .ok (.invokestatic 158, 3) := by decide +kernel
theorem dX7_plus_100 : decode cX7_plus 100 = .ok (.ifCond .eq 7, 3) := by decide +kernel
theorem dX7_plus_103 : decode cX7_plus 103 = .ok (.iconst 0, 1) := by decide +kernel
theorem dX7_plus_104 : decode cX7_plus 104 = .ok (.goto 4, 3) := by decide +kernel
theorem dX7_plus_107 : decode cX7_plus 107 = .ok (.iconst 3, 1) := by decide +kernel
theorem dX7_plus_108 : decode cX7_plus 108 = .ok (.putfield 41, 3) := by decide +kernel
theorem dX7_plus_111 : decode cX7_plus 111 = .ok (.aload_n 0, 1) := by decide +kernel
theorem dX7_plus_112 : decode cX7_plus 112 = .ok (.getfield 7, 3) := by decide +kernel
theorem dX7_plus_115 : decode cX7_plus 115 = .ok (.iload_n 1, 1) := by decide +kernel
theorem dX7_plus_116 : decode cX7_plus 116 = .ok (.aload_n 0, 1) := by decide +kernel
theorem dX7_plus_117 : decode cX7_plus 117 = .ok (.getfield 41, 3) := by decide +kernel
theorem dX7_plus_120 : decode cX7_plus 120 = .ok (.ifCond .ne 14, 3) := by decide +kernel
theorem dX7_plus_123 : decode cX7_plus 123 = .ok (.aload_n 0, 1) := by decide +kernel
theorem dX7_plus_124 : decode cX7_plus 124 = .ok (.lload 5, 2) := by decide +kernel
theorem dX7_plus_126 : decode cX7_plus 126 = .ok (.lload 7, 2) := by decide +kernel
theorem dX7_plus_128 : decode cX7_plus 128 = .ok (.invokevirtual 161, 3) := by decide +kernel
theorem dX7_plus_131 : decode cX7_plus 131 = .ok (.goto 5, 3) := by decide +kernel
theorem dX7_plus_134 : decode cX7_plus 134 = .ok (.lload 5, 2) := by decide +kernel
theorem dX7_plus_136 : decode cX7_plus 136 = .ok (.lastore, 1) := by decide +kernel
theorem dX7_plus_137 : decode cX7_plus 137 = .ok (.return_, 1) := by decide +kernel
theorem dX7_plus_138 : decode cX7_plus 138 = .ok (.iload 4, 2) := by decide +kernel
theorem dX7_plus_140 : decode cX7_plus 140 = .ok (.bipush 6, 2) := by decide +kernel
theorem dX7_plus_142 : decode cX7_plus 142 = .ok (.if_icmp .le 7, 3) := by decide +kernel
theorem dX7_plus_145 : decode cX7_plus 145 = .ok (.lconst 1, 1) := by decide +kernel
theorem dX7_plus_146 : decode cX7_plus 146 = .ok (.goto 12, 3) := by decide +kernel
theorem dX7_plus_149 : decode cX7_plus 149 = .ok (.ldc2_w 173, 3) := by decide +kernel
theorem dX7_plus_152 : decode cX7_plus 152 = .ok (.iload 4, 2) := by decide +kernel
theorem dX7_plus_154 : decode cX7_plus 154 = .ok (.invokestatic 199, 3) := by decide +kernel
theorem dX7_plus_157 : decode cX7_plus 157 = .ok (.ldiv, 1) := by decide +kernel
theorem dX7_plus_158 : decode cX7_plus 158 = .ok (.lstore 7, 2) := by decide +kernel
theorem dX7_plus_160 : decode cX7_plus 160 = .ok (.iload 4, 2) := by decide +kernel
theorem dX7_plus_162 : decode cX7_plus 162 = .ok (.bipush 8, 2) := by decide +kernel
theorem dX7_plus_164 : decode cX7_plus 164 = .ok (.if_icmp .ne 11, 3) := by decide +kernel
theorem dX7_plus_167 : decode cX7_plus 167 = .ok (.ldc2_w 92, 3) := by decide +kernel
theorem dX7_plus_170 : decode cX7_plus 170 = .ok (.lload_n 2, 1) := by decide +kernel
theorem dX7_plus_171 : decode cX7_plus 171 = .ok (.lmul, 1) := by decide +kernel
theorem dX7_plus_172 : decode cX7_plus 172 = .ok (.goto 9, 3) := by decide +kernel
theorem dX7_plus_175 : decode cX7_plus 175 = .ok (.lload_n 2, 1) := by decide +kernel
theorem dX7_plus_176 : decode cX7_plus 176 = .ok (.lload 7, 2) := by decide +kernel
theorem dX7_plus_178 : decode cX7_plus 178 = .ok (.invokestatic 59, 3) := by decide +kernel
theorem dX7_plus_181 : decode cX7_plus 181 = .ok (.lstore 9, 2) := by decide +kernel
theorem dX7_plus_183 : decode cX7_plus 183 = .ok (.aload_n 0, 1) := by decide +kernel
theorem dX7_plus_184 : decode cX7_plus 184 = .ok (.getfield 13, 3) := by decide +kernel
theorem dX7_plus_187 : decode cX7_plus 187 = .ok (.iload_n 1, 1) := by decide +kernel
theorem dX7_plus_188 : decode cX7_plus 188 = .ok (.laload, 1) := by decide +kernel
theorem dX7_plus_189 : decode cX7_plus 189 = .ok (.iload 4, 2) := by decide +kernel
theorem dX7_plus_191 : decode cX7_plus 191 = .ok (.bipush 6, 2) := by decide +kernel
theorem dX7_plus_193 : decode cX7_plus 193 = .ok (.if_icmp .le 7, 3) := by decide +kernel
theorem dX7_plus_196 : decode cX7_plus 196 = .ok (.lconst 0, 1) := by decide +kernel
theorem dX7_plus_197 : decode cX7_plus 197 = .ok (.goto 20, 3) := by decide +kernel
theorem dX7_plus_200 : decode cX7_plus 200 = .ok (.lload_n 2, 1) := by decide +kernel
theorem dX7_plus_201 : decode cX7_plus 201 = .ok (.lload 7, 2) := by decide +kernel
theorem dX7_plus_203 : decode cX7_plus 203 = .ok (.lload_n 2, 1) := by decide +kernel
theorem dX7_plus_204 : decode cX7_plus 204 = .ok (.lload 7, 2) := by decide +kernel
theorem dX7_plus_206 : decode cX7_plus 206 = .ok (.invokestatic 59, 3) := by decide +kernel
theorem dX7_plus_209 : decode cX7_plus 209 = .ok (.lmul, 1) := by decide +kernel
theorem dX7_plus_210 : decode cX7_plus 210 = .ok (.lsub, 1) := by decide +kernel
theorem dX7_plus_211 : decode cX7_plus 211 = .ok (.iload 4, 2) := by decide +kernel
theorem dX7_plus_213 : decode cX7_plus 213 = .ok (.invokestatic 199, 3) := by decide +kernel
theorem dX7_plus_216 : decode cX7_plus 216 = .ok (.lmul, 1) := by decide +kernel
theorem dX7_plus_217 : decode cX7_plus 217 = .ok (.ladd, 1) := by decide +kernel
theorem dX7_plus_218 : decode cX7_plus 218 = .ok (.lstore 11, 2) := by decide +kernel
theorem dX7_plus_220 : decode cX7_plus 220 = .ok (.lload 9, 2) := by decide +kernel
theorem dX7_plus_222 : decode cX7_plus 222 = .ok (.lload 11, 2) := by decide +kernel
theorem dX7_plus_224 : decode cX7_plus 224 = .ok (.ldc2_w 173, 3) := by decide +kernel
theorem dX7_plus_227 : decode cX7_plus 227 = .ok (.lcmp, 1) := by decide +kernel
theorem dX7_plus_228 : decode cX7_plus 228 = .ok (.ifCond .lt 7, 3) := by decide +kernel
theorem dX7_plus_231 : decode cX7_plus 231 = .ok (.lconst 1, 1) := by decide +kernel
theorem dX7_plus_232 : decode cX7_plus 232 = .ok (.goto 4, 3) := by decide +kernel
theorem dX7_plus_235 : decode cX7_plus 235 = .ok (.lconst 0, 1) := by decide +kernel
theorem dX7_plus_236 : decode cX7_plus 236 = .ok (.ladd, 1) := by decide +kernel
theorem dX7_plus_237 : decode cX7_plus 237 = .ok (.lstore 9, 2) := by decide +kernel
theorem dX7_plus_239 : decode cX7_plus 239 = .ok (.aload_n 0, 1) := by decide +kernel
theorem dX7_plus_240 : decode cX7_plus 240 = .ok (.lload 9, 2) := by decide +kernel
theorem dX7_plus_242 : decode cX7_plus 242 = .ok (.ldc2_w 187, 3) := by decide +kernel
theorem dX7_plus_245 : decode cX7_plus 245 = .ok (.ldc2_w 189, 3) := by decide +kernel
theorem dX7_plus_248 : decode cX7_plus 248 = .ok (.invokestatic 102, 3) := by decide +kernel
theorem dX7_plus_251 : decode cX7_plus 251 = .ok (.ifCond .eq 18, 3) := by decide +kernel
theorem dX7_plus_254 : decode cX7_plus 254 = .ok (.lload 5, 2) := by decide +kernel
theorem dX7_plus_256 : decode cX7_plus 256 = .ok (.lload 9, 2) := by decide +kernel
theorem dX7_plus_258 : decode cX7_plus 258 = .ok (.ladd, 1) := by decide +kernel
theorem dX7_plus_259 : decode cX7_plus 259 = .ok (.invokestatic 166, 3) := by decide +kernel
theorem dX7_plus_262 : decode cX7_plus 262 = .ok (.ifCond .eq 7, 3) := by decide +kernel
theorem dX7_plus_265 : decode cX7_plus 265 = .ok (.iconst 0, 1) := by decide +kernel
theorem dX7_plus_266 : decode cX7_plus 266 = .ok (.goto 4, 3) := by decide +kernel
theorem dX7_plus_269 : decode cX7_plus 269 = .ok (.iconst 3, 1) := by decide +kernel
theorem dX7_plus_270 : decode cX7_plus 270 = .ok (.putfield 41, 3) := by decide +kernel
theorem dX7_plus_273 : decode cX7_plus 273 = .ok (.aload_n 0, 1) := by decide +kernel
