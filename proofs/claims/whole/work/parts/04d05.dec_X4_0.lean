theorem dX4_init_0 : decode cX4_init 0 = .ok (.aload_n 0, 1) := by decide +kernel
theorem dX4_init_1 : decode cX4_init 1 = .ok (.invokespecial 3, 3) := by decide +kernel
theorem dX4_init_4 : decode cX4_init 4 = .ok (.aload_n 0, 1) := by decide +kernel
theorem dX4_init_5 : decode cX4_init 5 = .ok (.sipush 1970, 3) := by decide +kernel
theorem dX4_init_8 : decode cX4_init 8 = .ok (.putfield 9, 3) := by decide +kernel
theorem dX4_init_11 : decode cX4_init 11 = .ok (.aload_n 0, 1) := by decide +kernel
theorem dX4_init_12 : decode cX4_init 12 = .ok (.iconst 1, 1) := by decide +kernel
theorem dX4_init_13 : decode cX4_init 13 = .ok (.putfield 15, 3) := by decide +kernel
theorem dX4_init_16 : decode cX4_init 16 = .ok (.aload_n 0, 1) := by decide +kernel
theorem dX4_init_17 : decode cX4_init 17 = .ok (.iconst 1, 1) := by decide +kernel
theorem dX4_init_18 : decode cX4_init 18 = .ok (.putfield 18, 3) := by decide +kernel
theorem dX4_init_21 : decode cX4_init 21 = .ok (.return_, 1) := by decide +kernel
theorem dX4_setDate_0 : decode cX4_setDate 0 = .ok (.aload_n 0, 1) := by decide +kernel
theorem dX4_setDate_1 : decode cX4_setDate 1 = .ok (.iload_n 1, 1) := by decide +kernel
theorem dX4_setDate_2 : decode cX4_setDate 2 = .ok (.putfield 9, 3) := by decide +kernel
theorem dX4_setDate_5 : decode cX4_setDate 5 = .ok (.aload_n 0, 1) := by decide +kernel
theorem dX4_setDate_6 : decode cX4_setDate 6 = .ok (.iload_n 2, 1) := by decide +kernel
theorem dX4_setDate_7 : decode cX4_setDate 7 = .ok (.putfield 15, 3) := by decide +kernel
theorem dX4_setDate_10 : decode cX4_setDate 10 = .ok (.aload_n 0, 1) := by decide +kernel
theorem dX4_setDate_11 : decode cX4_setDate 11 = .ok (.iload_n 3, 1) := by decide +kernel
theorem dX4_setDate_12 : decode cX4_setDate 12 = .ok (.putfield 18, 3) := by decide +kernel
theorem dX4_setDate_15 : decode cX4_setDate 15 = .ok (.return_, 1) := by decide +kernel
theorem dX4_setNano_0 : decode cX4_setNano 0 = .ok (.aload_n 0, 1) := by decide +kernel
theorem dX4_setNano_1 : decode cX4_setNano 1 = .ok (.lload_n 1, 1) := by decide +kernel
theorem dX4_setNano_2 : decode cX4_setNano 2 = .ok (.putfield 21, 3) := by decide +kernel
theorem dX4_setNano_5 : decode cX4_setNano 5 = .ok (.return_, 1) := by decide +kernel
theorem dX4_epochDay_0 : decode cX4_epochDay 0 = .ok (.aload_n 0, 1) := by decide +kernel
theorem dX4_epochDay_1 : decode cX4_epochDay 1 = .ok (.getfield 9, 3) := by decide +kernel
theorem dX4_epochDay_4 : decode cX4_epochDay 4 = .ok (.aload_n 0, 1) := by decide +kernel
theorem dX4_epochDay_5 : decode cX4_epochDay 5 = .ok (.getfield 15, 3) := by decide +kernel
theorem dX4_epochDay_8 : decode cX4_epochDay 8 = .ok (.aload_n 0, 1) := by decide +kernel
theorem dX4_epochDay_9 : decode cX4_epochDay 9 = .ok (.getfield 18, 3) := by decide +kernel
theorem dX4_epochDay_12 : decode cX4_epochDay 12 = .ok (.invokestatic 25, 3) := by decide +kernel
theorem dX4_epochDay_15 : decode cX4_epochDay 15 = .ok (.lreturn, 1) := by decide +kernel
theorem dX4_epochSecond_0 : decode cX4_epochSecond 0 = .ok (.aload_n 0, 1) := by decide +kernel
theorem dX4_epochSecond_1 : decode cX4_epochSecond 1 = .ok (.invokevirtual 31, 3) := by decide +kernel
theorem dX4_epochSecond_4 : decode cX4_epochSecond 4 = .ok (.ldc2_w 34, 3) := by decide +kernel
theorem dX4_epochSecond_7 : decode cX4_epochSecond 7 = .ok (.lmul, 1) := by decide +kernel
theorem dX4_epochSecond_8 : decode cX4_epochSecond 8 = .ok (.aload_n 0, 1) := by decide +kernel
theorem dX4_epochSecond_9 : decode cX4_epochSecond 9 = .ok (.getfield 21, 3) := by decide +kernel
theorem dX4_epochSecond_12 : decode cX4_epochSecond 12 = .ok (.ldc2_w 36, 3) := by decide +kernel
theorem dX4_epochSecond_15 : decode cX4_epochSecond 15 = .ok (.ldiv, 1) := by decide +kernel
theorem dX4_epochSecond_16 : decode cX4_epochSecond 16 = .ok (.ladd, 1) := by decide +kernel
theorem dX4_epochSecond_17 : decode cX4_epochSecond 17 = .ok (.lreturn, 1) := by decide +kernel
theorem dX4_monthNumber_0 : decode cX4_monthNumber 0 = .ok (.aload_n 0, 1) := by decide +kernel
theorem dX4_monthNumber_1 : decode cX4_monthNumber 1 = .ok (.getfield 9, 3) := by decide +kernel
theorem dX4_monthNumber_4 : decode cX4_monthNumber 4 = .ok (.i2l, 1) := by decide +kernel
theorem dX4_monthNumber_5 : decode cX4_monthNumber 5 = .ok (.ldc2_w 38, 3) := by decide +kernel
theorem dX4_monthNumber_8 : decode cX4_monthNumber 8 = .ok (.lmul, 1) := by decide +kernel
theorem dX4_monthNumber_9 : decode cX4_monthNumber 9 = .ok (.aload_n 0, 1) := by decide +kernel
theorem dX4_monthNumber_10 : decode cX4_monthNumber 10 = .ok (.getfield 15, 3) := by decide +kernel
theorem dX4_monthNumber_13 : decode cX4_monthNumber 13 = .ok (.i2l, 1) := by decide +kernel
theorem dX4_monthNumber_14 : decode cX4_monthNumber 14 = .ok (.ladd, 1) := by decide +kernel
theorem dX4_monthNumber_15 : decode cX4_monthNumber 15 = .ok (.lconst 1, 1) := by decide +kernel
theorem dX4_monthNumber_16 : decode cX4_monthNumber 16 = .ok (.lsub, 1) := by decide +kernel
theorem dX4_monthNumber_17 : decode cX4_monthNumber 17 = .ok (.lreturn, 1) := by decide +kernel
theorem dX4_setEpochDay_0 : decode cX4_setEpochDay 0 = .ok (.lload_n 1, 1) := by decide +kernel
theorem dX4_setEpochDay_1 : decode cX4_setEpochDay 1 = .ok (.ldc2_w 40, 3) := by decide +kernel
theorem dX4_setEpochDay_4 : decode cX4_setEpochDay 4 = .ok (.lcmp, 1) := by decide +kernel
theorem dX4_setEpochDay_5 : decode cX4_setEpochDay 5 = .ok (.ifCond .lt 11, 3) := by decide +kernel
theorem dX4_setEpochDay_8 : decode cX4_setEpochDay 8 = .ok (.lload_n 1, 1) := by decide +kernel
theorem dX4_setEpochDay_9 : decode cX4_setEpochDay 9 = .ok (.ldc2_w 42, 3) := by decide +kernel
theorem dX4_setEpochDay_12 : decode cX4_setEpochDay 12 = .ok (.lcmp, 1) := by decide +kernel
theorem dX4_setEpochDay_13 : decode cX4_setEpochDay 13 = .ok (.ifCond .le 5, 3) := by decide +kernel
theorem dX4_setEpochDay_16 : decode cX4_setEpochDay 16 = .ok (.iconst 0, 1) := by decide +kernel
theorem dX4_setEpochDay_17 : decode cX4_setEpochDay 17 = .ok (.ireturn, 1) := by decide +kernel
theorem dX4_setEpochDay_18 : decode cX4_setEpochDay 18 = .ok (.lload_n 1, 1) := by decide +kernel
theorem dX4_setEpochDay_19 : decode cX4_setEpochDay 19 = .ok (.invokestatic 44, 3) := by decide +kernel
theorem dX4_setEpochDay_22 : decode cX4_setEpochDay 22 = .ok (.istore_n 3, 1) := by decide +kernel
theorem dX4_setEpochDay_23 : decode cX4_setEpochDay 23 = .ok (.lload_n 1, 1) := by decide +kernel
theorem dX4_setEpochDay_24 : decode cX4_setEpochDay 24 = .ok (.iload_n 3, 1) := by decide +kernel
theorem dX4_setEpochDay_25 : decode cX4_setEpochDay 25 = .ok (.iconst 1, 1) := by decide +kernel
theorem dX4_setEpochDay_26 : decode cX4_setEpochDay 26 = .ok (.iconst 1, 1) := by decide +kernel
theorem dX4_setEpochDay_27 : decode cX4_setEpochDay 27 = .ok (.invokestatic 25, 3) := by decide +kernel
theorem dX4_setEpochDay_30 : decode cX4_setEpochDay 30 = .ok (.lsub, 1) := by decide +kernel
theorem dX4_setEpochDay_31 : decode cX4_setEpochDay 31 = .ok (.l2i, 1) := by decide +kernel
theorem dX4_setEpochDay_32 : decode cX4_setEpochDay 32 = .ok (.iconst 1, 1) := by decide +kernel
theorem dX4_setEpochDay_33 : decode cX4_setEpochDay 33 = .ok (.iadd, 1) := by decide +kernel
theorem dX4_setEpochDay_34 : decode cX4_setEpochDay 34 = .ok (.istore 4, 2) := by decide +kernel
theorem dX4_setEpochDay_36 : decode cX4_setEpochDay 36 = .ok (.iconst 1, 1) := by decide +kernel
theorem dX4_setEpochDay_37 : decode cX4_setEpochDay 37 = .ok (.istore 5, 2) := by decide +kernel
theorem dX4_setEpochDay_39 : decode cX4_setEpochDay 39 = .ok (.iload 5, 2) := by decide +kernel
theorem dX4_setEpochDay_41 : decode cX4_setEpochDay 41 = .ok (.bipush 12, 2) := by decide +kernel
theorem dX4_setEpochDay_43 : decode cX4_setEpochDay 43 = .ok (.if_icmp .ge 31, 3) := by decide +kernel
theorem dX4_setEpochDay_46 : decode cX4_setEpochDay 46 = .ok (.iload 4, 2) := by decide +kernel
theorem dX4_setEpochDay_48 : decode cX4_setEpochDay 48 = .ok (.iload_n 3, 1) := by decide +kernel
theorem dX4_setEpochDay_49 : decode cX4_setEpochDay 49 = .ok (.iload 5, 2) := by decide +kernel
theorem dX4_setEpochDay_51 : decode cX4_setEpochDay 51 = .ok (.invokestatic 48, 3) := by decide +kernel
theorem dX4_setEpochDay_54 : decode cX4_setEpochDay 54 = .ok (.if_icmp .le 20, 3) := by decide +kernel
theorem dX4_setEpochDay_57 : decode cX4_setEpochDay 57 = .ok (.iload 4, 2) := by decide +kernel
theorem dX4_setEpochDay_59 : decode cX4_setEpochDay 59 = .ok (.iload_n 3, 1) := by decide +kernel
theorem dX4_setEpochDay_60 : decode cX4_setEpochDay 60 = .ok (.iload 5, 2) := by decide +kernel
theorem dX4_setEpochDay_62 : decode cX4_setEpochDay 62 = .ok (.invokestatic 48, 3) := by decide +kernel
theorem dX4_setEpochDay_65 : decode cX4_setEpochDay 65 = .ok (.isub, 1) := by decide +kernel
theorem dX4_setEpochDay_66 : decode cX4_setEpochDay 66 = .ok (.istore 4, 2) := by decide +kernel
theorem dX4_setEpochDay_68 : decode cX4_setEpochDay 68 = .ok (.iinc 5 1, 3) := by decide +kernel
theorem dX4_setEpochDay_71 : decode cX4_setEpochDay 71 = .ok (.goto (-32), 3) := by decide +kernel
theorem dX4_setEpochDay_74 : decode cX4_setEpochDay 74 = .ok (.aload_n 0, 1) := by decide +kernel
theorem dX4_setEpochDay_75 : decode cX4_setEpochDay 75 = .ok (.iload_n 3, 1) := by decide +kernel
theorem dX4_setEpochDay_76 : decode cX4_setEpochDay 76 = .ok (.iload 5, 2) := by decide +kernel
theorem dX4_setEpochDay_78 : decode cX4_setEpochDay 78 = .ok (.iload 4, 2) := by decide +kernel
theorem dX4_setEpochDay_80 : decode cX4_setEpochDay 80 = .ok (.invokevirtual 52, 3) := by decide +kernel
theorem dX4_setEpochDay_83 : decode cX4_setEpochDay 83 = .ok (.iconst 1, 1) := by decide +kernel
theorem dX4_setEpochDay_84 : decode cX4_setEpochDay 84 = .ok (.ireturn, 1) := by decide +kernel
theorem dX4_setMonthNumber_0 : decode cX4_setMonthNumber 0 = .ok (.lload_n 1, 1) := by decide +kernel
theorem dX4_setMonthNumber_1 : decode cX4_setMonthNumber 1 = .ok (.ldc2_w 56, 3) := by decide +kernel
theorem dX4_setMonthNumber_4 : decode cX4_setMonthNumber 4 = .ok (.lcmp, 1) := by decide +kernel
theorem dX4_setMonthNumber_5 : decode cX4_setMonthNumber 5 = .ok (.ifCond .lt 11, 3) := by decide +kernel
theorem dX4_setMonthNumber_8 : decode cX4_setMonthNumber 8 = .ok (.lload_n 1, 1) := by decide +kernel
theorem dX4_setMonthNumber_9 : decode cX4_setMonthNumber 9 = .ok (.ldc2_w 58, 3) := by decide +kernel
theorem dX4_setMonthNumber_12 : decode cX4_setMonthNumber 12 = .ok (.lcmp, 1) := by decide +kernel
theorem dX4_setMonthNumber_13 : decode cX4_setMonthNumber 13 = .ok (.ifCond .le 5, 3) := by decide +kernel
theorem dX4_setMonthNumber_16 : decode cX4_setMonthNumber 16 = .ok (.iconst 0, 1) := by decide +kernel
theorem dX4_setMonthNumber_17 : decode cX4_setMonthNumber 17 = .ok (.ireturn, 1) := by decide +kernel
theorem dX4_setMonthNumber_18 : decode cX4_setMonthNumber 18 = .ok (.aload_n 0, 1) := by decide +kernel
theorem dX4_setMonthNumber_19 : decode cX4_setMonthNumber 19 = .ok (.lload_n 1, 1) := by decide +kernel
theorem dX4_setMonthNumber_20 : decode cX4_setMonthNumber 20 = .ok (.aload_n 0, 1) := by decide +kernel
theorem dX4_setMonthNumber_21 : decode cX4_setMonthNumber 21 = .ok (.getfield 18, 3) := by decide +kernel
theorem dX4_setMonthNumber_24 : decode cX4_setMonthNumber 24 = .ok (.invokestatic 60, 3) := by decide +kernel
theorem dX4_setMonthNumber_27 : decode cX4_setMonthNumber 27 = .ok (.invokevirtual 64, 3) := by decide +kernel
theorem dX4_setMonthNumber_30 : decode cX4_setMonthNumber 30 = .ok (.ireturn, 1) := by decide +kernel
theorem dX4_addParts_0 : decode cX4_addParts 0 = .ok (.lload_n 3, 1) := by decide +kernel
theorem dX4_addParts_1 : decode cX4_addParts 1 = .ok (.lconst 0, 1) := by decide +kernel
theorem dX4_addParts_2 : decode cX4_addParts 2 = .ok (.lcmp, 1) := by decide +kernel
theorem dX4_addParts_3 : decode cX4_addParts 3 = .ok (.ifCond .gt 5, 3) := by decide +kernel
theorem dX4_addParts_6 : decode cX4_addParts 6 = .ok (.iconst 0, 1) := by decide +kernel
theorem dX4_addParts_7 : decode cX4_addParts 7 = .ok (.ireturn, 1) := by decide +kernel
theorem dX4_addParts_8 : decode cX4_addParts 8 = .ok (.lload_n 1, 1) := by decide +kernel
theorem dX4_addParts_9 : decode cX4_addParts 9 = .ok (.lload_n 3, 1) := by decide +kernel
theorem dX4_addParts_10 : decode cX4_addParts 10 = .ok (.invokestatic 68, 3) := by decide +kernel
theorem dX4_addParts_13 : decode cX4_addParts 13 = .ok (.lstore 5, 2) := by decide +kernel
theorem dX4_addParts_15 : decode cX4_addParts 15 = .ok (.aload_n 0, 1) := by decide +kernel
theorem dX4_addParts_16 : decode cX4_addParts 16 = .ok (.getfield 21, 3) := by decide +kernel
theorem dX4_addParts_19 : decode cX4_addParts 19 = .ok (.lload_n 1, 1) := by decide +kernel
theorem dX4_addParts_20 : decode cX4_addParts 20 = .ok (.lload_n 3, 1) := by decide +kernel
theorem dX4_addParts_21 : decode cX4_addParts 21 = .ok (.invokestatic 74, 3) := by decide +kernel
theorem dX4_addParts_24 : decode cX4_addParts 24 = .ok (.ldc2_w 77, 3) := by decide +kernel
theorem dX4_addParts_27 : decode cX4_addParts 27 = .ok (.lload_n 3, 1) := by decide +kernel
theorem dX4_addParts_28 : decode cX4_addParts 28 = .ok (.ldiv, 1) := by decide +kernel
theorem dX4_addParts_29 : decode cX4_addParts 29 = .ok (.lmul, 1) := by decide +kernel
theorem dX4_addParts_30 : decode cX4_addParts 30 = .ok (.ladd, 1) := by decide +kernel
theorem dX4_addParts_31 : decode cX4_addParts 31 = .ok (.lstore 7, 2) := by decide +kernel
theorem dX4_addParts_33 : decode cX4_addParts 33 = .ok (.lload 7, 2) := by decide +kernel
theorem dX4_addParts_35 : decode cX4_addParts 35 = .ok (.ldc2_w 77, 3) := by decide +kernel
theorem dX4_addParts_38 : decode cX4_addParts 38 = .ok (.lcmp, 1) := by decide +kernel
theorem dX4_addParts_39 : decode cX4_addParts 39 = .ok (.ifCond .lt 17, 3) := by decide +kernel
theorem dX4_addParts_42 : decode cX4_addParts 42 = .ok (.lload 7, 2) := by decide +kernel
theorem dX4_addParts_44 : decode cX4_addParts 44 = .ok (.ldc2_w 77, 3) := by decide +kernel
theorem dX4_addParts_47 : decode cX4_addParts 47 = .ok (.lsub, 1) := by decide +kernel
theorem dX4_addParts_48 : decode cX4_addParts 48 = .ok (.lstore 7, 2) := by decide +kernel
theorem dX4_addParts_50 : decode cX4_addParts 50 = .ok (.lload 5, 2) := by decide +kernel
theorem dX4_addParts_52 : decode cX4_addParts 52 = .ok (.lconst 1, 1) := by decide +kernel
theorem dX4_addParts_53 : decode cX4_addParts 53 = .ok (.ladd, 1) := by decide +kernel
theorem dX4_addParts_54 : decode cX4_addParts 54 = .ok (.lstore 5, 2) := by decide +kernel
theorem dX4_addParts_56 : decode cX4_addParts 56 = .ok (.aload_n 0, 1) := by decide +kernel
theorem dX4_addParts_57 : decode cX4_addParts 57 = .ok (.aload_n 0, 1) := by decide +kernel
theorem dX4_addParts_58 : decode cX4_addParts 58 = .ok (.invokevirtual 31, 3) := by decide +kernel
theorem dX4_addParts_61 : decode cX4_addParts 61 = .ok (.lload 5, 2) := by decide +kernel
theorem dX4_addParts_63 : decode cX4_addParts 63 = .ok (.ladd, 1) := by decide +kernel
theorem dX4_addParts_64 : decode cX4_addParts 64 = .ok (.invokevirtual 64, 3) := by decide +kernel
theorem dX4_addParts_67 : decode cX4_addParts 67 = .ok (.ifCond .ne 5, 3) := by decide +kernel
theorem dX4_addParts_70 : decode cX4_addParts 70 = .ok (.iconst 0, 1) := by decide +kernel
theorem dX4_addParts_71 : decode cX4_addParts 71 = .ok (.ireturn, 1) := by decide +kernel
theorem dX4_addParts_72 : decode cX4_addParts 72 = .ok (.aload_n 0, 1) := by decide +kernel
theorem dX4_addParts_73 : decode cX4_addParts 73 = .ok (.lload 7, 2) := by decide +kernel
theorem dX4_addParts_75 : decode cX4_addParts 75 = .ok (.putfield 21, 3) := by decide +kernel
theorem dX4_addParts_78 : decode cX4_addParts 78 = .ok (.iconst 1, 1) := by decide +kernel
theorem dX4_addParts_79 : decode cX4_addParts 79 = .ok (.ireturn, 1) := by decide +kernel
theorem dX4_dateField_0 : decode cX4_dateField 0 = .ok (.iload_n 1, 1) := by decide +kernel
theorem dX4_dateField_1 : decode cX4_dateField 1 = .ok (.tableswitch 151 0 14 #[75, 81, 87, 93, 110, 115, 151, 151, 151, 151, 151, 151, 124, 130, 139], 75) := by decide +kernel
theorem dX4_dateField_76 : decode cX4_dateField 76 = .ok (.aload_n 0, 1) := by decide +kernel
theorem dX4_dateField_77 : decode cX4_dateField 77 = .ok (.getfield 9, 3) := by decide +kernel
theorem dX4_dateField_80 : decode cX4_dateField 80 = .ok (.i2l, 1) := by decide +kernel
theorem dX4_dateField_81 : decode cX4_dateField 81 = .ok (.lreturn, 1) := by decide +kernel
theorem dX4_dateField_82 : decode cX4_dateField 82 = .ok (.aload_n 0, 1) := by decide +kernel
theorem dX4_dateField_83 : decode cX4_dateField 83 = .ok (.getfield 15, 3) := by decide +kernel
theorem dX4_dateField_86 : decode cX4_dateField 86 = .ok (.i2l, 1) := by decide +kernel
theorem dX4_dateField_87 : decode cX4_dateField 87 = .ok (.lreturn, 1) := by decide +kernel
theorem dX4_dateField_88 : decode cX4_dateField 88 = .ok (.aload_n 0, 1) := by decide +kernel
theorem dX4_dateField_89 : decode cX4_dateField 89 = .ok (.getfield 18, 3) := by decide +kernel
theorem dX4_dateField_92 : decode cX4_dateField 92 = .ok (.i2l, 1) := by decide +kernel
theorem dX4_dateField_93 : decode cX4_dateField 93 = .ok (.lreturn, 1) := by decide +kernel
theorem dX4_dateField_94 : decode cX4_dateField 94 = .ok (.aload_n 0, 1) := by decide +kernel
theorem dX4_dateField_95 : decode cX4_dateField 95 = .ok (.getfield 9, 3) := by decide +kernel
theorem dX4_dateField_98 : decode cX4_dateField 98 = .ok (.aload_n 0, 1) := by decide +kernel
theorem dX4_dateField_99 : decode cX4_dateField 99 = .ok (.getfield 15, 3) := by decide +kernel
theorem dX4_dateField_102 : decode cX4_dateField 102 = .ok (.aload_n 0, 1) := by decide +kernel
theorem dX4_dateField_103 : decode cX4_dateField 103 = .ok (.getfield 18, 3) := by decide +kernel
theorem dX4_dateField_106 : decode cX4_dateField 106 = .ok (.invokestatic 79, 3) := by decide +kernel
theorem dX4_dateField_109 : decode cX4_dateField 109 = .ok (.i2l, 1) := by decide +kernel
theorem dX4_dateField_110 : decode cX4_dateField 110 = .ok (.lreturn, 1) := by decide +kernel
theorem dX4_dateField_111 : decode cX4_dateField 111 = .ok (.aload_n 0, 1) := by decide +kernel
theorem dX4_dateField_112 : decode cX4_dateField 112 = .ok (.invokevirtual 31, 3) := by decide +kernel
theorem dX4_dateField_115 : decode cX4_dateField 115 = .ok (.lreturn, 1) := by decide +kernel
theorem dX4_dateField_116 : decode cX4_dateField 116 = .ok (.aload_n 0, 1) := by decide +kernel
theorem dX4_dateField_117 : decode cX4_dateField 117 = .ok (.invokevirtual 31, 3) := by decide +kernel
theorem dX4_dateField_120 : decode cX4_dateField 120 = .ok (.invokestatic 83, 3) := by decide +kernel
theorem dX4_dateField_123 : decode cX4_dateField 123 = .ok (.i2l, 1) := by decide +kernel
theorem dX4_dateField_124 : decode cX4_dateField 124 = .ok (.lreturn, 1) := by decide +kernel
theorem dX4_dateField_125 : decode cX4_dateField 125 = .ok (.aload_n 0, 1) := by decide +kernel
theorem dX4_dateField_126 : decode cX4_dateField 126 = .ok (.invokevirtual 86, 3) := by decide +kernel
theorem dX4_dateField_129 : decode cX4_dateField 129 = .ok (.i2l, 1) := by decide +kernel
theorem dX4_dateField_130 : decode cX4_dateField 130 = .ok (.lreturn, 1) := by decide +kernel
theorem dX4_dateField_131 : decode cX4_dateField 131 = .ok (.aload_n 0, 1) := by decide +kernel
theorem dX4_dateField_132 : decode cX4_dateField 132 = .ok (.invokevirtual 31, 3) := by decide +kernel
theorem dX4_dateField_135 : decode cX4_dateField 135 = .ok (.invokestatic 90, 3) := by decide +kernel
theorem dX4_dateField_138 : decode cX4_dateField 138 = .ok (.i2l, 1) := by decide +kernel
theorem dX4_dateField_139 : decode cX4_dateField 139 = .ok (.lreturn, 1) := by decide +kernel
theorem dX4_dateField_140 : decode cX4_dateField 140 = .ok (.aload_n 0, 1) := by decide +kernel
theorem dX4_dateField_141 : decode cX4_dateField 141 = .ok (.invokevirtual 31, 3) := by decide +kernel
theorem dX4_dateField_144 : decode cX4_dateField 144 = .ok (.invokestatic 93, 3) := by decide +kernel
theorem dX4_dateField_147 : decode cX4_dateField 147 = .ok (.invokestatic 44, 3) := by decide +kernel
theorem dX4_dateField_150 : decode cX4_dateField 150 = .ok (.i2l, 1) := by decide +kernel
theorem dX4_dateField_151 : decode cX4_dateField 151 = .ok (.lreturn, 1) := by decide +kernel
theorem dX4_dateField_152 : decode cX4_dateField 152 = .ok (.aload_n 0, 1) := by decide +kernel
theorem dX4_dateField_153 : decode cX4_dateField 153 = .ok (.invokevirtual 97, 3) := by decide +kernel
theorem dX4_dateField_156 : decode cX4_dateField 156 = .ok (.lreturn, 1) := by decide +kernel
theorem dX4_setDateField_0 : decode cX4_setDateField 0 = .ok (.iload_n 1, 1) := by decide +kernel
theorem dX4_setDateField_1 : decode cX4_setDateField 1 = .ok (.tableswitch 314 0 12 #[67, 100, 133, 181, 230, 236, 314, 314, 314, 314, 314, 314, 271], 67) := by decide +kernel
theorem dX4_setDateField_68 : decode cX4_setDateField 68 = .ok (.lload_n 2, 1) := by decide +kernel
theorem dX4_setDateField_69 : decode cX4_setDateField 69 = .ok (.invokestatic 100, 3) := by decide +kernel
theorem dX4_setDateField_72 : decode cX4_setDateField 72 = .ok (.ifCond .eq 27, 3) := by decide +kernel
theorem dX4_setDateField_75 : decode cX4_setDateField 75 = .ok (.aload_n 0, 1) := by decide +kernel
theorem dX4_setDateField_76 : decode cX4_setDateField 76 = .ok (.lload_n 2, 1) := by decide +kernel
theorem dX4_setDateField_77 : decode cX4_setDateField 77 = .ok (.ldc2_w 38, 3) := by decide +kernel
theorem dX4_setDateField_80 : decode cX4_setDateField 80 = .ok (.lmul, 1) := by decide +kernel
theorem dX4_setDateField_81 : decode cX4_setDateField 81 = .ok (.aload_n 0, 1) := by decide +kernel
theorem dX4_setDateField_82 : decode cX4_setDateField 82 = .ok (.getfield 15, 3) := by decide +kernel
theorem dX4_setDateField_85 : decode cX4_setDateField 85 = .ok (.i2l, 1) := by decide +kernel
theorem dX4_setDateField_86 : decode cX4_setDateField 86 = .ok (.ladd, 1) := by decide +kernel
theorem dX4_setDateField_87 : decode cX4_setDateField 87 = .ok (.lconst 1, 1) := by decide +kernel
theorem dX4_setDateField_88 : decode cX4_setDateField 88 = .ok (.lsub, 1) := by decide +kernel
theorem dX4_setDateField_89 : decode cX4_setDateField 89 = .ok (.invokevirtual 103, 3) := by decide +kernel
theorem dX4_setDateField_92 : decode cX4_setDateField 92 = .ok (.ifCond .eq 7, 3) := by decide +kernel
theorem dX4_setDateField_95 : decode cX4_setDateField 95 = .ok (.iconst 1, 1) := by decide +kernel
theorem dX4_setDateField_96 : decode cX4_setDateField 96 = .ok (.goto 4, 3) := by decide +kernel
theorem dX4_setDateField_99 : decode cX4_setDateField 99 = .ok (.iconst 0, 1) := by decide +kernel
theorem dX4_setDateField_100 : decode cX4_setDateField 100 = .ok (.ireturn, 1) := by decide +kernel
theorem dX4_setDateField_101 : decode cX4_setDateField 101 = .ok (.lload_n 2, 1) := by decide +kernel
theorem dX4_setDateField_102 : decode cX4_setDateField 102 = .ok (.invokestatic 106, 3) := by decide +kernel
theorem dX4_setDateField_105 : decode cX4_setDateField 105 = .ok (.ifCond .eq 27, 3) := by decide +kernel
theorem dX4_setDateField_108 : decode cX4_setDateField 108 = .ok (.aload_n 0, 1) := by decide +kernel
theorem dX4_setDateField_109 : decode cX4_setDateField 109 = .ok (.aload_n 0, 1) := by decide +kernel
theorem dX4_setDateField_110 : decode cX4_setDateField 110 = .ok (.getfield 9, 3) := by decide +kernel
theorem dX4_setDateField_113 : decode cX4_setDateField 113 = .ok (.i2l, 1) := by decide +kernel
theorem dX4_setDateField_114 : decode cX4_setDateField 114 = .ok (.ldc2_w 38, 3) := by decide +kernel
theorem dX4_setDateField_117 : decode cX4_setDateField 117 = .ok (.lmul, 1) := by decide +kernel
theorem dX4_setDateField_118 : decode cX4_setDateField 118 = .ok (.lload_n 2, 1) := by decide +kernel
theorem dX4_setDateField_119 : decode cX4_setDateField 119 = .ok (.ladd, 1) := by decide +kernel
theorem dX4_setDateField_120 : decode cX4_setDateField 120 = .ok (.lconst 1, 1) := by decide +kernel
theorem dX4_setDateField_121 : decode cX4_setDateField 121 = .ok (.lsub, 1) := by decide +kernel
theorem dX4_setDateField_122 : decode cX4_setDateField 122 = .ok (.invokevirtual 103, 3) := by decide +kernel
theorem dX4_setDateField_125 : decode cX4_setDateField 125 = .ok (.ifCond .eq 7, 3) := by decide +kernel
theorem dX4_setDateField_128 : decode cX4_setDateField 128 = .ok (.iconst 1, 1) := by decide +kernel
theorem dX4_setDateField_129 : decode cX4_setDateField 129 = .ok (.goto 4, 3) := by decide +kernel
theorem dX4_setDateField_132 : decode cX4_setDateField 132 = .ok (.iconst 0, 1) := by decide +kernel
theorem dX4_setDateField_133 : decode cX4_setDateField 133 = .ok (.ireturn, 1) := by decide +kernel
theorem dX4_setDateField_134 : decode cX4_setDateField 134 = .ok (.lload_n 2, 1) := by decide +kernel
theorem dX4_setDateField_135 : decode cX4_setDateField 135 = .ok (.lconst 1, 1) := by decide +kernel
theorem dX4_setDateField_136 : decode cX4_setDateField 136 = .ok (.lcmp, 1) := by decide +kernel
theorem dX4_setDateField_137 : decode cX4_setDateField 137 = .ok (.ifCond .lt 43, 3) := by decide +kernel
theorem dX4_setDateField_140 : decode cX4_setDateField 140 = .ok (.lload_n 2, 1) := by decide +kernel
theorem dX4_setDateField_141 : decode cX4_setDateField 141 = .ok (.aload_n 0, 1) := by decide +kernel
theorem dX4_setDateField_142 : decode cX4_setDateField 142 = .ok (.getfield 9, 3) := by decide +kernel
theorem dX4_setDateField_145 : decode cX4_setDateField 145 = .ok (.aload_n 0, 1) := by decide +kernel
theorem dX4_setDateField_146 : decode cX4_setDateField 146 = .ok (.getfield 15, 3) := by decide +kernel
theorem dX4_setDateField_149 : decode cX4_setDateField 149 = .ok (.invokestatic 48, 3) := by decide +kernel
theorem dX4_setDateField_152 : decode cX4_setDateField 152 = .ok (.i2l, 1) := by decide +kernel
theorem dX4_setDateField_153 : decode cX4_setDateField 153 = .ok (.lcmp, 1) := by decide +kernel
theorem dX4_setDateField_154 : decode cX4_setDateField 154 = .ok (.ifCond .gt 26, 3) := by decide +kernel
theorem dX4_setDateField_157 : decode cX4_setDateField 157 = .ok (.aload_n 0, 1) := by decide +kernel
theorem dX4_setDateField_158 : decode cX4_setDateField 158 = .ok (.aload_n 0, 1) := by decide +kernel
theorem dX4_setDateField_159 : decode cX4_setDateField 159 = .ok (.invokevirtual 31, 3) := by decide +kernel
theorem dX4_setDateField_162 : decode cX4_setDateField 162 = .ok (.lload_n 2, 1) := by decide +kernel
theorem dX4_setDateField_163 : decode cX4_setDateField 163 = .ok (.ladd, 1) := by decide +kernel
theorem dX4_setDateField_164 : decode cX4_setDateField 164 = .ok (.aload_n 0, 1) := by decide +kernel
theorem dX4_setDateField_165 : decode cX4_setDateField 165 = .ok (.getfield 18, 3) := by decide +kernel
theorem dX4_setDateField_168 : decode cX4_setDateField 168 = .ok (.i2l, 1) := by decide +kernel
theorem dX4_setDateField_169 : decode cX4_setDateField 169 = .ok (.lsub, 1) := by decide +kernel
theorem dX4_setDateField_170 : decode cX4_setDateField 170 = .ok (.invokevirtual 64, 3) := by decide +kernel
theorem dX4_setDateField_173 : decode cX4_setDateField 173 = .ok (.ifCond .eq 7, 3) := by decide +kernel
theorem dX4_setDateField_176 : decode cX4_setDateField 176 = .ok (.iconst 1, 1) := by decide +kernel
theorem dX4_setDateField_177 : decode cX4_setDateField 177 = .ok (.goto 4, 3) := by decide +kernel
theorem dX4_setDateField_180 : decode cX4_setDateField 180 = .ok (.iconst 0, 1) := by decide +kernel
theorem dX4_setDateField_181 : decode cX4_setDateField 181 = .ok (.ireturn, 1) := by decide +kernel
theorem dX4_setDateField_182 : decode cX4_setDateField 182 = .ok (.lload_n 2, 1) := by decide +kernel
theorem dX4_setDateField_183 : decode cX4_setDateField 183 = .ok (.lconst 1, 1) := by decide +kernel
theorem dX4_setDateField_184 : decode cX4_setDateField 184 = .ok (.lcmp, 1) := by decide +kernel
theorem dX4_setDateField_185 : decode cX4_setDateField 185 = .ok (.ifCond .lt 44, 3) := by decide +kernel
theorem dX4_setDateField_188 : decode cX4_setDateField 188 = .ok (.lload_n 2, 1) := by decide +kernel
theorem dX4_setDateField_189 : decode cX4_setDateField 189 = .ok (.aload_n 0, 1) := by decide +kernel
theorem dX4_setDateField_190 : decode cX4_setDateField 190 = .ok (.getfield 9, 3) := by decide +kernel
theorem dX4_setDateField_193 : decode cX4_setDateField 193 = .ok (.bipush 12, 2) := by decide +kernel
theorem dX4_setDateField_195 : decode cX4_setDateField 195 = .ok (.bipush 31, 2) := by decide +kernel
theorem dX4_setDateField_197 : decode cX4_setDateField 197 = .ok (.invokestatic 79, 3) := by decide +kernel
theorem dX4_setDateField_200 : decode cX4_setDateField 200 = .ok (.i2l, 1) := by decide +kernel
theorem dX4_setDateField_201 : decode cX4_setDateField 201 = .ok (.lcmp, 1) := by decide +kernel
theorem dX4_setDateField_202 : decode cX4_setDateField 202 = .ok (.ifCond .gt 27, 3) := by decide +kernel
theorem dX4_setDateField_205 : decode cX4_setDateField 205 = .ok (.aload_n 0, 1) := by decide +kernel
theorem dX4_setDateField_206 : decode cX4_setDateField 206 = .ok (.aload_n 0, 1) := by decide +kernel
