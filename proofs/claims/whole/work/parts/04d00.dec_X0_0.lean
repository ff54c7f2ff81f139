theorem dX0_isLeap_0 : decode cX0_isLeap 0 = .ok (.iload_n 0, 1) := by decide +kernel
theorem dX0_isLeap_1 : decode cX0_isLeap 1 = .ok (.iconst 4, 1) := by decide +kernel
theorem dX0_isLeap_2 : decode cX0_isLeap 2 = .ok (.irem, 1) := by decide +kernel
theorem dX0_isLeap_3 : decode cX0_isLeap 3 = .ok (.ifCond .ne 22, 3) := by decide +kernel
theorem dX0_isLeap_6 : decode cX0_isLeap 6 = .ok (.iload_n 0, 1) := by decide +kernel
theorem dX0_isLeap_7 : decode cX0_isLeap 7 = .ok (.bipush 100, 2) := by decide +kernel
theorem dX0_isLeap_9 : decode cX0_isLeap 9 = .ok (.irem, 1) := by decide +kernel
theorem dX0_isLeap_10 : decode cX0_isLeap 10 = .ok (.ifCond .ne 11, 3) := by decide +kernel
theorem dX0_isLeap_13 : decode cX0_isLeap 13 = .ok (.iload_n 0, 1) := by decide +kernel
theorem dX0_isLeap_14 : decode cX0_isLeap 14 = .ok (.sipush 400, 3) := by decide +kernel
theorem dX0_isLeap_17 : decode cX0_isLeap 17 = .ok (.irem, 1) := by decide +kernel
theorem dX0_isLeap_18 : decode cX0_isLeap 18 = .ok (.ifCond .ne 7, 3) := by decide +kernel
theorem dX0_isLeap_21 : decode cX0_isLeap 21 = .ok (.iconst 1, 1) := by decide +kernel
theorem dX0_isLeap_22 : decode cX0_isLeap 22 = .ok (.goto 4, 3) := by decide +kernel
theorem dX0_isLeap_25 : decode cX0_isLeap 25 = .ok (.iconst 0, 1) := by decide +kernel
theorem dX0_isLeap_26 : decode cX0_isLeap 26 = .ok (.ireturn, 1) := by decide +kernel
theorem dX0_isYear_0 : decode cX0_isYear 0 = .ok (.lload_n 0, 1) := by decide +kernel
theorem dX0_isYear_1 : decode cX0_isYear 1 = .ok (.ldc2_w 9, 3) := by decide +kernel
theorem dX0_isYear_4 : decode cX0_isYear 4 = .ok (.lcmp, 1) := by decide +kernel
theorem dX0_isYear_5 : decode cX0_isYear 5 = .ok (.ifCond .lt 15, 3) := by decide +kernel
theorem dX0_isYear_8 : decode cX0_isYear 8 = .ok (.lload_n 0, 1) := by decide +kernel
theorem dX0_isYear_9 : decode cX0_isYear 9 = .ok (.ldc2_w 11, 3) := by decide +kernel
theorem dX0_isYear_12 : decode cX0_isYear 12 = .ok (.lcmp, 1) := by decide +kernel
theorem dX0_isYear_13 : decode cX0_isYear 13 = .ok (.ifCond .gt 7, 3) := by decide +kernel
theorem dX0_isYear_16 : decode cX0_isYear 16 = .ok (.iconst 1, 1) := by decide +kernel
theorem dX0_isYear_17 : decode cX0_isYear 17 = .ok (.goto 4, 3) := by decide +kernel
theorem dX0_isYear_20 : decode cX0_isYear 20 = .ok (.iconst 0, 1) := by decide +kernel
theorem dX0_isYear_21 : decode cX0_isYear 21 = .ok (.ireturn, 1) := by decide +kernel
theorem dX0_isMonth_0 : decode cX0_isMonth 0 = .ok (.lload_n 0, 1) := by decide +kernel
theorem dX0_isMonth_1 : decode cX0_isMonth 1 = .ok (.lconst 1, 1) := by decide +kernel
theorem dX0_isMonth_2 : decode cX0_isMonth 2 = .ok (.lcmp, 1) := by decide +kernel
theorem dX0_isMonth_3 : decode cX0_isMonth 3 = .ok (.ifCond .lt 15, 3) := by decide +kernel
theorem dX0_isMonth_6 : decode cX0_isMonth 6 = .ok (.lload_n 0, 1) := by decide +kernel
theorem dX0_isMonth_7 : decode cX0_isMonth 7 = .ok (.ldc2_w 13, 3) := by decide +kernel
theorem dX0_isMonth_10 : decode cX0_isMonth 10 = .ok (.lcmp, 1) := by decide +kernel
theorem dX0_isMonth_11 : decode cX0_isMonth 11 = .ok (.ifCond .gt 7, 3) := by decide +kernel
theorem dX0_isMonth_14 : decode cX0_isMonth 14 = .ok (.iconst 1, 1) := by decide +kernel
theorem dX0_isMonth_15 : decode cX0_isMonth 15 = .ok (.goto 4, 3) := by decide +kernel
theorem dX0_isMonth_18 : decode cX0_isMonth 18 = .ok (.iconst 0, 1) := by decide +kernel
theorem dX0_isMonth_19 : decode cX0_isMonth 19 = .ok (.ireturn, 1) := by decide +kernel
theorem dX0_isWeekday_0 : decode cX0_isWeekday 0 = .ok (.lload_n 0, 1) := by decide +kernel
theorem dX0_isWeekday_1 : decode cX0_isWeekday 1 = .ok (.lconst 1, 1) := by decide +kernel
theorem dX0_isWeekday_2 : decode cX0_isWeekday 2 = .ok (.lcmp, 1) := by decide +kernel
theorem dX0_isWeekday_3 : decode cX0_isWeekday 3 = .ok (.ifCond .lt 15, 3) := by decide +kernel
theorem dX0_isWeekday_6 : decode cX0_isWeekday 6 = .ok (.lload_n 0, 1) := by decide +kernel
theorem dX0_isWeekday_7 : decode cX0_isWeekday 7 = .ok (.ldc2_w 15, 3) := by decide +kernel
theorem dX0_isWeekday_10 : decode cX0_isWeekday 10 = .ok (.lcmp, 1) := by decide +kernel
theorem dX0_isWeekday_11 : decode cX0_isWeekday 11 = .ok (.ifCond .gt 7, 3) := by decide +kernel
theorem dX0_isWeekday_14 : decode cX0_isWeekday 14 = .ok (.iconst 1, 1) := by decide +kernel
theorem dX0_isWeekday_15 : decode cX0_isWeekday 15 = .ok (.goto 4, 3) := by decide +kernel
theorem dX0_isWeekday_18 : decode cX0_isWeekday 18 = .ok (.iconst 0, 1) := by decide +kernel
theorem dX0_isWeekday_19 : decode cX0_isWeekday 19 = .ok (.ireturn, 1) := by decide +kernel
theorem dX0_isDate_0 : decode cX0_isDate 0 = .ok (.iload_n 0, 1) := by decide +kernel
theorem dX0_isDate_1 : decode cX0_isDate 1 = .ok (.i2l, 1) := by decide +kernel
theorem dX0_isDate_2 : decode cX0_isDate 2 = .ok (.invokestatic 17, 3) := by decide +kernel
theorem dX0_isDate_5 : decode cX0_isDate 5 = .ok (.ifCond .eq 29, 3) := by decide +kernel
theorem dX0_isDate_8 : decode cX0_isDate 8 = .ok (.iload_n 1, 1) := by decide +kernel
theorem dX0_isDate_9 : decode cX0_isDate 9 = .ok (.i2l, 1) := by decide +kernel
theorem dX0_isDate_10 : decode cX0_isDate 10 = .ok (.invokestatic 23, 3) := by decide +kernel
theorem dX0_isDate_13 : decode cX0_isDate 13 = .ok (.ifCond .eq 21, 3) := by decide +kernel
theorem dX0_isDate_16 : decode cX0_isDate 16 = .ok (.iload_n 2, 1) := by decide +kernel
theorem dX0_isDate_17 : decode cX0_isDate 17 = .ok (.iconst 1, 1) := by decide +kernel
theorem dX0_isDate_18 : decode cX0_isDate 18 = .ok (.if_icmp .lt 16, 3) := by decide +kernel
theorem dX0_isDate_21 : decode cX0_isDate 21 = .ok (.iload_n 2, 1) := by decide +kernel
theorem dX0_isDate_22 : decode cX0_isDate 22 = .ok (.iload_n 0, 1) := by decide +kernel
theorem dX0_isDate_23 : decode cX0_isDate 23 = .ok (.iload_n 1, 1) := by decide +kernel
theorem dX0_isDate_24 : decode cX0_isDate 24 = .ok (.invokestatic 26, 3) := by decide +kernel
theorem dX0_isDate_27 : decode cX0_isDate 27 = .ok (.if_icmp .gt 7, 3) := by decide +kernel
theorem dX0_isDate_30 : decode cX0_isDate 30 = .ok (.iconst 1, 1) := by decide +kernel
theorem dX0_isDate_31 : decode cX0_isDate 31 = .ok (.goto 4, 3) := by decide +kernel
theorem dX0_isDate_34 : decode cX0_isDate 34 = .ok (.iconst 0, 1) := by decide +kernel
theorem dX0_isDate_35 : decode cX0_isDate 35 = .ok (.ireturn, 1) := by decide +kernel
theorem dX0_isTime_0 : decode cX0_isTime 0 = .ok (.iload_n 0, 1) := by decide +kernel
theorem dX0_isTime_1 : decode cX0_isTime 1 = .ok (.ifCond .lt 46, 3) := by decide +kernel
theorem dX0_isTime_4 : decode cX0_isTime 4 = .ok (.iload_n 0, 1) := by decide +kernel
theorem dX0_isTime_5 : decode cX0_isTime 5 = .ok (.bipush 23, 2) := by decide +kernel
theorem dX0_isTime_7 : decode cX0_isTime 7 = .ok (.if_icmp .gt 40, 3) := by decide +kernel
theorem dX0_isTime_10 : decode cX0_isTime 10 = .ok (.iload_n 1, 1) := by decide +kernel
theorem dX0_isTime_11 : decode cX0_isTime 11 = .ok (.ifCond .lt 36, 3) := by decide +kernel
theorem dX0_isTime_14 : decode cX0_isTime 14 = .ok (.iload_n 1, 1) := by decide +kernel
theorem dX0_isTime_15 : decode cX0_isTime 15 = .ok (.bipush 59, 2) := by decide +kernel
theorem dX0_isTime_17 : decode cX0_isTime 17 = .ok (.if_icmp .gt 30, 3) := by decide +kernel
theorem dX0_isTime_20 : decode cX0_isTime 20 = .ok (.iload_n 2, 1) := by decide +kernel
theorem dX0_isTime_21 : decode cX0_isTime 21 = .ok (.ifCond .lt 26, 3) := by decide +kernel
theorem dX0_isTime_24 : decode cX0_isTime 24 = .ok (.iload_n 2, 1) := by decide +kernel
theorem dX0_isTime_25 : decode cX0_isTime 25 = .ok (.bipush 59, 2) := by decide +kernel
theorem dX0_isTime_27 : decode cX0_isTime 27 = .ok (.if_icmp .gt 20, 3) := by decide +kernel
theorem dX0_isTime_30 : decode cX0_isTime 30 = .ok (.iload_n 3, 1) := by decide +kernel
theorem dX0_isTime_31 : decode cX0_isTime 31 = .ok (.ifCond .lt 16, 3) := by decide +kernel
theorem dX0_isTime_34 : decode cX0_isTime 34 = .ok (.iload_n 3, 1) := by decide +kernel
theorem dX0_isTime_35 : decode cX0_isTime 35 = .ok (.i2l, 1) := by decide +kernel
theorem dX0_isTime_36 : decode cX0_isTime 36 = .ok (.ldc2_w 30, 3) := by decide +kernel
theorem dX0_isTime_39 : decode cX0_isTime 39 = .ok (.lcmp, 1) := by decide +kernel
theorem dX0_isTime_40 : decode cX0_isTime 40 = .ok (.ifCond .ge 7, 3) := by decide +kernel
theorem dX0_isTime_43 : decode cX0_isTime 43 = .ok (.iconst 1, 1) := by decide +kernel
theorem dX0_isTime_44 : decode cX0_isTime 44 = .ok (.goto 4, 3) := by decide +kernel
theorem dX0_isTime_47 : decode cX0_isTime 47 = .ok (.iconst 0, 1) := by decide +kernel
theorem dX0_isTime_48 : decode cX0_isTime 48 = .ok (.ireturn, 1) := by decide +kernel
theorem dX0_nanoOfDay_0 : decode cX0_nanoOfDay 0 = .ok (.iload_n 0, 1) := by decide +kernel
theorem dX0_nanoOfDay_1 : decode cX0_nanoOfDay 1 = .ok (.i2l, 1) := by decide +kernel
theorem dX0_nanoOfDay_2 : decode cX0_nanoOfDay 2 = .ok (.ldc2_w 32, 3) := by decide +kernel
theorem dX0_nanoOfDay_5 : decode cX0_nanoOfDay 5 = .ok (.lmul, 1) := by decide +kernel
theorem dX0_nanoOfDay_6 : decode cX0_nanoOfDay 6 = .ok (.iload_n 1, 1) := by decide +kernel
theorem dX0_nanoOfDay_7 : decode cX0_nanoOfDay 7 = .ok (.i2l, 1) := by decide +kernel
theorem dX0_nanoOfDay_8 : decode cX0_nanoOfDay 8 = .ok (.ldc2_w 34, 3) := by decide +kernel
theorem dX0_nanoOfDay_11 : decode cX0_nanoOfDay 11 = .ok (.lmul, 1) := by decide +kernel
theorem dX0_nanoOfDay_12 : decode cX0_nanoOfDay 12 = .ok (.ladd, 1) := by decide +kernel
theorem dX0_nanoOfDay_13 : decode cX0_nanoOfDay 13 = .ok (.iload_n 2, 1) := by decide +kernel
theorem dX0_nanoOfDay_14 : decode cX0_nanoOfDay 14 = .ok (.i2l, 1) := by decide +kernel
theorem dX0_nanoOfDay_15 : decode cX0_nanoOfDay 15 = .ok (.ldc2_w 30, 3) := by decide +kernel
theorem dX0_nanoOfDay_18 : decode cX0_nanoOfDay 18 = .ok (.lmul, 1) := by decide +kernel
theorem dX0_nanoOfDay_19 : decode cX0_nanoOfDay 19 = .ok (.ladd, 1) := by decide +kernel
theorem dX0_nanoOfDay_20 : decode cX0_nanoOfDay 20 = .ok (.iload_n 3, 1) := by decide +kernel
theorem dX0_nanoOfDay_21 : decode cX0_nanoOfDay 21 = .ok (.i2l, 1) := by decide +kernel
theorem dX0_nanoOfDay_22 : decode cX0_nanoOfDay 22 = .ok (.ladd, 1) := by decide +kernel
theorem dX0_nanoOfDay_23 : decode cX0_nanoOfDay 23 = .ok (.lreturn, 1) := by decide +kernel
theorem dX0_monthLength_0 : decode cX0_monthLength 0 = .ok (.iload_n 1, 1) := by decide +kernel
theorem dX0_monthLength_1 : decode cX0_monthLength 1 = .ok (.tableswitch 73 2 11 #[55, 73, 70, 73, 70, 73, 73, 70, 73, 70], 55) := by decide +kernel
theorem dX0_monthLength_56 : decode cX0_monthLength 56 = .ok (.iload_n 0, 1) := by decide +kernel
theorem dX0_monthLength_57 : decode cX0_monthLength 57 = .ok (.invokestatic 36, 3) := by decide +kernel
theorem dX0_monthLength_60 : decode cX0_monthLength 60 = .ok (.ifCond .eq 8, 3) := by decide +kernel
theorem dX0_monthLength_63 : decode cX0_monthLength 63 = .ok (.bipush 29, 2) := by decide +kernel
theorem dX0_monthLength_65 : decode cX0_monthLength 65 = .ok (.goto 5, 3) := by decide +kernel
theorem dX0_monthLength_68 : decode cX0_monthLength 68 = .ok (.bipush 28, 2) := by decide +kernel
theorem dX0_monthLength_70 : decode cX0_monthLength 70 = .ok (.ireturn, 1) := by decide +kernel
theorem dX0_monthLength_71 : decode cX0_monthLength 71 = .ok (.bipush 30, 2) := by decide +kernel
theorem dX0_monthLength_73 : decode cX0_monthLength 73 = .ok (.ireturn, 1) := by decide +kernel
theorem dX0_monthLength_74 : decode cX0_monthLength 74 = .ok (.bipush 31, 2) := by decide +kernel
theorem dX0_monthLength_76 : decode cX0_monthLength 76 = .ok (.ireturn, 1) := by decide +kernel
theorem dX0_dayOfYear_0 : decode cX0_dayOfYear 0 = .ok (.sipush 367, 3) := by decide +kernel
theorem dX0_dayOfYear_3 : decode cX0_dayOfYear 3 = .ok (.iload_n 1, 1) := by decide +kernel
theorem dX0_dayOfYear_4 : decode cX0_dayOfYear 4 = .ok (.imul, 1) := by decide +kernel
theorem dX0_dayOfYear_5 : decode cX0_dayOfYear 5 = .ok (.sipush 362, 3) := by decide +kernel
theorem dX0_dayOfYear_8 : decode cX0_dayOfYear 8 = .ok (.isub, 1) := by decide +kernel
theorem dX0_dayOfYear_9 : decode cX0_dayOfYear 9 = .ok (.bipush 12, 2) := by decide +kernel
theorem dX0_dayOfYear_11 : decode cX0_dayOfYear 11 = .ok (.idiv, 1) := by decide +kernel
theorem dX0_dayOfYear_12 : decode cX0_dayOfYear 12 = .ok (.iload_n 2, 1) := by decide +kernel
theorem dX0_dayOfYear_13 : decode cX0_dayOfYear 13 = .ok (.iadd, 1) := by decide +kernel
theorem dX0_dayOfYear_14 : decode cX0_dayOfYear 14 = .ok (.istore_n 3, 1) := by decide +kernel
theorem dX0_dayOfYear_15 : decode cX0_dayOfYear 15 = .ok (.iload_n 1, 1) := by decide +kernel
theorem dX0_dayOfYear_16 : decode cX0_dayOfYear 16 = .ok (.iconst 2, 1) := by decide +kernel
theorem dX0_dayOfYear_17 : decode cX0_dayOfYear 17 = .ok (.if_icmp .gt 5, 3) := by decide +kernel
theorem dX0_dayOfYear_20 : decode cX0_dayOfYear 20 = .ok (.iload_n 3, 1) := by decide +kernel
theorem dX0_dayOfYear_21 : decode cX0_dayOfYear 21 = .ok (.ireturn, 1) := by decide +kernel
theorem dX0_dayOfYear_22 : decode cX0_dayOfYear 22 = .ok (.iload_n 0, 1) := by decide +kernel
theorem dX0_dayOfYear_23 : decode cX0_dayOfYear 23 = .ok (.invokestatic 36, 3) := by decide +kernel
theorem dX0_dayOfYear_26 : decode cX0_dayOfYear 26 = .ok (.ifCond .eq 9, 3) := by decide +kernel
theorem dX0_dayOfYear_29 : decode cX0_dayOfYear 29 = .ok (.iload_n 3, 1) := by decide +kernel
theorem dX0_dayOfYear_30 : decode cX0_dayOfYear 30 = .ok (.iconst 1, 1) := by decide +kernel
theorem dX0_dayOfYear_31 : decode cX0_dayOfYear 31 = .ok (.isub, 1) := by decide +kernel
theorem dX0_dayOfYear_32 : decode cX0_dayOfYear 32 = .ok (.goto 6, 3) := by decide +kernel
theorem dX0_dayOfYear_35 : decode cX0_dayOfYear 35 = .ok (.iload_n 3, 1) := by decide +kernel
theorem dX0_dayOfYear_36 : decode cX0_dayOfYear 36 = .ok (.iconst 2, 1) := by decide +kernel
theorem dX0_dayOfYear_37 : decode cX0_dayOfYear 37 = .ok (.isub, 1) := by decide +kernel
theorem dX0_dayOfYear_38 : decode cX0_dayOfYear 38 = .ok (.ireturn, 1) := by decide +kernel
theorem dX0_epochDay_0 : decode cX0_epochDay 0 = .ok (.iload_n 0, 1) := by decide +kernel
theorem dX0_epochDay_1 : decode cX0_epochDay 1 = .ok (.invokestatic 40, 3) := by decide +kernel
theorem dX0_epochDay_4 : decode cX0_epochDay 4 = .ok (.iload_n 0, 1) := by decide +kernel
theorem dX0_epochDay_5 : decode cX0_epochDay 5 = .ok (.iload_n 1, 1) := by decide +kernel
theorem dX0_epochDay_6 : decode cX0_epochDay 6 = .ok (.iload_n 2, 1) := by decide +kernel
theorem dX0_epochDay_7 : decode cX0_epochDay 7 = .ok (.invokestatic 44, 3) := by decide +kernel
theorem dX0_epochDay_10 : decode cX0_epochDay 10 = .ok (.i2l, 1) := by decide +kernel
theorem dX0_epochDay_11 : decode cX0_epochDay 11 = .ok (.ladd, 1) := by decide +kernel
theorem dX0_epochDay_12 : decode cX0_epochDay 12 = .ok (.lconst 1, 1) := by decide +kernel
theorem dX0_epochDay_13 : decode cX0_epochDay 13 = .ok (.lsub, 1) := by decide +kernel
theorem dX0_epochDay_14 : decode cX0_epochDay 14 = .ok (.ldc2_w 48, 3) := by decide +kernel
theorem dX0_epochDay_17 : decode cX0_epochDay 17 = .ok (.lsub, 1) := by decide +kernel
theorem dX0_epochDay_18 : decode cX0_epochDay 18 = .ok (.lreturn, 1) := by decide +kernel
theorem dX0_dayInMonth_0 : decode cX0_dayInMonth 0 = .ok (.lload_n 0, 1) := by decide +kernel
theorem dX0_dayInMonth_1 : decode cX0_dayInMonth 1 = .ok (.ldc2_w 13, 3) := by decide +kernel
theorem dX0_dayInMonth_4 : decode cX0_dayInMonth 4 = .ok (.invokestatic 50, 3) := by decide +kernel
theorem dX0_dayInMonth_7 : decode cX0_dayInMonth 7 = .ok (.l2i, 1) := by decide +kernel
theorem dX0_dayInMonth_8 : decode cX0_dayInMonth 8 = .ok (.istore_n 3, 1) := by decide +kernel
theorem dX0_dayInMonth_9 : decode cX0_dayInMonth 9 = .ok (.lload_n 0, 1) := by decide +kernel
theorem dX0_dayInMonth_10 : decode cX0_dayInMonth 10 = .ok (.ldc2_w 13, 3) := by decide +kernel
theorem dX0_dayInMonth_13 : decode cX0_dayInMonth 13 = .ok (.invokestatic 56, 3) := by decide +kernel
theorem dX0_dayInMonth_16 : decode cX0_dayInMonth 16 = .ok (.l2i, 1) := by decide +kernel
theorem dX0_dayInMonth_17 : decode cX0_dayInMonth 17 = .ok (.iconst 1, 1) := by decide +kernel
theorem dX0_dayInMonth_18 : decode cX0_dayInMonth 18 = .ok (.iadd, 1) := by decide +kernel
theorem dX0_dayInMonth_19 : decode cX0_dayInMonth 19 = .ok (.istore 4, 2) := by decide +kernel
theorem dX0_dayInMonth_21 : decode cX0_dayInMonth 21 = .ok (.iload_n 3, 1) := by decide +kernel
theorem dX0_dayInMonth_22 : decode cX0_dayInMonth 22 = .ok (.iload 4, 2) := by decide +kernel
theorem dX0_dayInMonth_24 : decode cX0_dayInMonth 24 = .ok (.iload_n 2, 1) := by decide +kernel
theorem dX0_dayInMonth_25 : decode cX0_dayInMonth 25 = .ok (.iload_n 3, 1) := by decide +kernel
theorem dX0_dayInMonth_26 : decode cX0_dayInMonth 26 = .ok (.iload 4, 2) := by decide +kernel
theorem dX0_dayInMonth_28 : decode cX0_dayInMonth 28 = .ok (.invokestatic 26, 3) := by decide +kernel
theorem dX0_dayInMonth_31 : decode cX0_dayInMonth 31 = .ok (.invokestatic 59, 3) := by decide +kernel
theorem dX0_dayInMonth_34 : decode cX0_dayInMonth 34 = .ok (.invokestatic 62, 3) := by decide +kernel
theorem dX0_dayInMonth_37 : decode cX0_dayInMonth 37 = .ok (.lreturn, 1) := by decide +kernel
theorem dX0_yearOfDay_0 : decode cX0_yearOfDay 0 = .ok (.lload_n 0, 1) := by decide +kernel
theorem dX0_yearOfDay_1 : decode cX0_yearOfDay 1 = .ok (.ldc2_w 48, 3) := by decide +kernel
theorem dX0_yearOfDay_4 : decode cX0_yearOfDay 4 = .ok (.ladd, 1) := by decide +kernel
theorem dX0_yearOfDay_5 : decode cX0_yearOfDay 5 = .ok (.lstore_n 2, 1) := by decide +kernel
theorem dX0_yearOfDay_6 : decode cX0_yearOfDay 6 = .ok (.lload_n 2, 1) := by decide +kernel
theorem dX0_yearOfDay_7 : decode cX0_yearOfDay 7 = .ok (.ldc2_w 66, 3) := by decide +kernel
theorem dX0_yearOfDay_10 : decode cX0_yearOfDay 10 = .ok (.lmul, 1) := by decide +kernel
theorem dX0_yearOfDay_11 : decode cX0_yearOfDay 11 = .ok (.ldc2_w 68, 3) := by decide +kernel
theorem dX0_yearOfDay_14 : decode cX0_yearOfDay 14 = .ok (.invokestatic 50, 3) := by decide +kernel
theorem dX0_yearOfDay_17 : decode cX0_yearOfDay 17 = .ok (.l2i, 1) := by decide +kernel
theorem dX0_yearOfDay_18 : decode cX0_yearOfDay 18 = .ok (.istore 4, 2) := by decide +kernel
theorem dX0_yearOfDay_20 : decode cX0_yearOfDay 20 = .ok (.iload 4, 2) := by decide +kernel
theorem dX0_yearOfDay_22 : decode cX0_yearOfDay 22 = .ok (.invokestatic 40, 3) := by decide +kernel
theorem dX0_yearOfDay_25 : decode cX0_yearOfDay 25 = .ok (.lload_n 2, 1) := by decide +kernel
theorem dX0_yearOfDay_26 : decode cX0_yearOfDay 26 = .ok (.lcmp, 1) := by decide +kernel
theorem dX0_yearOfDay_27 : decode cX0_yearOfDay 27 = .ok (.ifCond .le 8, 3) := by decide +kernel
theorem dX0_yearOfDay_30 : decode cX0_yearOfDay 30 = .ok (.iload 4, 2) := by decide +kernel
theorem dX0_yearOfDay_32 : decode cX0_yearOfDay 32 = .ok (.iconst 1, 1) := by decide +kernel
theorem dX0_yearOfDay_33 : decode cX0_yearOfDay 33 = .ok (.isub, 1) := by decide +kernel
theorem dX0_yearOfDay_34 : decode cX0_yearOfDay 34 = .ok (.ireturn, 1) := by decide +kernel
theorem dX0_yearOfDay_35 : decode cX0_yearOfDay 35 = .ok (.iload 4, 2) := by decide +kernel
theorem dX0_yearOfDay_37 : decode cX0_yearOfDay 37 = .ok (.iconst 1, 1) := by decide +kernel
theorem dX0_yearOfDay_38 : decode cX0_yearOfDay 38 = .ok (.iadd, 1) := by decide +kernel
theorem dX0_yearOfDay_39 : decode cX0_yearOfDay 39 = .ok (.invokestatic 40, 3) := by decide +kernel
theorem dX0_yearOfDay_42 : decode cX0_yearOfDay 42 = .ok (.lload_n 2, 1) := by decide +kernel
theorem dX0_yearOfDay_43 : decode cX0_yearOfDay 43 = .ok (.lcmp, 1) := by decide +kernel
theorem dX0_yearOfDay_44 : decode cX0_yearOfDay 44 = .ok (.ifCond .gt 10, 3) := by decide +kernel
theorem dX0_yearOfDay_47 : decode cX0_yearOfDay 47 = .ok (.iload 4, 2) := by decide +kernel
theorem dX0_yearOfDay_49 : decode cX0_yearOfDay 49 = .ok (.iconst 1, 1) := by decide +kernel
theorem dX0_yearOfDay_50 : decode cX0_yearOfDay 50 = .ok (.iadd, 1) := by decide +kernel
theorem dX0_yearOfDay_51 : decode cX0_yearOfDay 51 = .ok (.goto 5, 3) := by decide +kernel
theorem dX0_yearOfDay_54 : decode cX0_yearOfDay 54 = .ok (.iload 4, 2) := by decide +kernel
theorem dX0_yearOfDay_56 : decode cX0_yearOfDay 56 = .ok (.ireturn, 1) := by decide +kernel
theorem dX0_daysBeforeYear_0 : decode cX0_daysBeforeYear 0 = .ok (.ldc2_w 70, 3) := by decide +kernel
theorem dX0_daysBeforeYear_3 : decode cX0_daysBeforeYear 3 = .ok (.iload_n 0, 1) := by decide +kernel
theorem dX0_daysBeforeYear_4 : decode cX0_daysBeforeYear 4 = .ok (.i2l, 1) := by decide +kernel
theorem dX0_daysBeforeYear_5 : decode cX0_daysBeforeYear 5 = .ok (.lmul, 1) := by decide +kernel
theorem dX0_daysBeforeYear_6 : decode cX0_daysBeforeYear 6 = .ok (.iload_n 0, 1) := by decide +kernel
theorem dX0_daysBeforeYear_7 : decode cX0_daysBeforeYear 7 = .ok (.iconst 3, 1) := by decide +kernel
theorem dX0_daysBeforeYear_8 : decode cX0_daysBeforeYear 8 = .ok (.iadd, 1) := by decide +kernel
theorem dX0_daysBeforeYear_9 : decode cX0_daysBeforeYear 9 = .ok (.iconst 4, 1) := by decide +kernel
theorem dX0_daysBeforeYear_10 : decode cX0_daysBeforeYear 10 = .ok (.invokestatic 72, 3) := by decide +kernel
theorem dX0_daysBeforeYear_13 : decode cX0_daysBeforeYear 13 = .ok (.i2l, 1) := by decide +kernel
theorem dX0_daysBeforeYear_14 : decode cX0_daysBeforeYear 14 = .ok (.ladd, 1) := by decide +kernel
theorem dX0_daysBeforeYear_15 : decode cX0_daysBeforeYear 15 = .ok (.iload_n 0, 1) := by decide +kernel
theorem dX0_daysBeforeYear_16 : decode cX0_daysBeforeYear 16 = .ok (.bipush 99, 2) := by decide +kernel
theorem dX0_daysBeforeYear_18 : decode cX0_daysBeforeYear 18 = .ok (.iadd, 1) := by decide +kernel
theorem dX0_daysBeforeYear_19 : decode cX0_daysBeforeYear 19 = .ok (.bipush 100, 2) := by decide +kernel
theorem dX0_daysBeforeYear_21 : decode cX0_daysBeforeYear 21 = .ok (.invokestatic 72, 3) := by decide +kernel
theorem dX0_daysBeforeYear_24 : decode cX0_daysBeforeYear 24 = .ok (.i2l, 1) := by decide +kernel
theorem dX0_daysBeforeYear_25 : decode cX0_daysBeforeYear 25 = .ok (.lsub, 1) := by decide +kernel
theorem dX0_daysBeforeYear_26 : decode cX0_daysBeforeYear 26 = .ok (.iload_n 0, 1) := by decide +kernel
theorem dX0_daysBeforeYear_27 : decode cX0_daysBeforeYear 27 = .ok (.sipush 399, 3) := by decide +kernel
theorem dX0_daysBeforeYear_30 : decode cX0_daysBeforeYear 30 = .ok (.iadd, 1) := by decide +kernel
theorem dX0_daysBeforeYear_31 : decode cX0_daysBeforeYear 31 = .ok (.sipush 400, 3) := by decide +kernel
theorem dX0_daysBeforeYear_34 : decode cX0_daysBeforeYear 34 = .ok (.invokestatic 72, 3) := by decide +kernel
theorem dX0_daysBeforeYear_37 : decode cX0_daysBeforeYear 37 = .ok (.i2l, 1) := by decide +kernel
theorem dX0_daysBeforeYear_38 : decode cX0_daysBeforeYear 38 = .ok (.ladd, 1) := by decide +kernel
theorem dX0_daysBeforeYear_39 : decode cX0_daysBeforeYear 39 = .ok (.lreturn, 1) := by decide +kernel
theorem dX0_weekday_0 : decode cX0_weekday 0 = .ok (.lload_n 0, 1) := by decide +kernel
theorem dX0_weekday_1 : decode cX0_weekday 1 = .ok (.ldc2_w 74, 3) := by decide +kernel
theorem dX0_weekday_4 : decode cX0_weekday 4 = .ok (.ladd, 1) := by decide +kernel
theorem dX0_weekday_5 : decode cX0_weekday 5 = .ok (.ldc2_w 15, 3) := by decide +kernel
theorem dX0_weekday_8 : decode cX0_weekday 8 = .ok (.invokestatic 56, 3) := by decide +kernel
theorem dX0_weekday_11 : decode cX0_weekday 11 = .ok (.l2i, 1) := by decide +kernel
theorem dX0_weekday_12 : decode cX0_weekday 12 = .ok (.iconst 1, 1) := by decide +kernel
theorem dX0_weekday_13 : decode cX0_weekday 13 = .ok (.iadd, 1) := by decide +kernel
theorem dX0_weekday_14 : decode cX0_weekday 14 = .ok (.ireturn, 1) := by decide +kernel
theorem dX0_weekdayFrom_0 : decode cX0_weekdayFrom 0 = .ok (.lload_n 0, 1) := by decide +kernel
theorem dX0_weekdayFrom_1 : decode cX0_weekdayFrom 1 = .ok (.iload_n 2, 1) := by decide +kernel
theorem dX0_weekdayFrom_2 : decode cX0_weekdayFrom 2 = .ok (.lload_n 0, 1) := by decide +kernel
theorem dX0_weekdayFrom_3 : decode cX0_weekdayFrom 3 = .ok (.invokestatic 76, 3) := by decide +kernel
theorem dX0_weekdayFrom_6 : decode cX0_weekdayFrom 6 = .ok (.isub, 1) := by decide +kernel
theorem dX0_weekdayFrom_7 : decode cX0_weekdayFrom 7 = .ok (.bipush 7, 2) := by decide +kernel
theorem dX0_weekdayFrom_9 : decode cX0_weekdayFrom 9 = .ok (.invokestatic 80, 3) := by decide +kernel
theorem dX0_weekdayFrom_12 : decode cX0_weekdayFrom 12 = .ok (.i2l, 1) := by decide +kernel
theorem dX0_weekdayFrom_13 : decode cX0_weekdayFrom 13 = .ok (.ladd, 1) := by decide +kernel
theorem dX0_weekdayFrom_14 : decode cX0_weekdayFrom 14 = .ok (.lreturn, 1) := by decide +kernel
theorem dX0_weekdayUpTo_0 : decode cX0_weekdayUpTo 0 = .ok (.lload_n 0, 1) := by decide +kernel
theorem dX0_weekdayUpTo_1 : decode cX0_weekdayUpTo 1 = .ok (.lload_n 0, 1) := by decide +kernel
theorem dX0_weekdayUpTo_2 : decode cX0_weekdayUpTo 2 = .ok (.invokestatic 76, 3) := by decide +kernel
theorem dX0_weekdayUpTo_5 : decode cX0_weekdayUpTo 5 = .ok (.iload_n 2, 1) := by decide +kernel
theorem dX0_weekdayUpTo_6 : decode cX0_weekdayUpTo 6 = .ok (.isub, 1) := by decide +kernel
theorem dX0_weekdayUpTo_7 : decode cX0_weekdayUpTo 7 = .ok (.bipush 7, 2) := by decide +kernel
theorem dX0_weekdayUpTo_9 : decode cX0_weekdayUpTo 9 = .ok (.invokestatic 80, 3) := by decide +kernel
theorem dX0_weekdayUpTo_12 : decode cX0_weekdayUpTo 12 = .ok (.i2l, 1) := by decide +kernel
theorem dX0_weekdayUpTo_13 : decode cX0_weekdayUpTo 13 = .ok (.lsub, 1) := by decide +kernel
theorem dX0_weekdayUpTo_14 : decode cX0_weekdayUpTo 14 = .ok (.lreturn, 1) := by decide +kernel
theorem dX0_thursday_0 : decode cX0_thursday 0 = .ok (.lload_n 0, 1) := by decide +kernel
theorem dX0_thursday_1 : decode cX0_thursday 1 = .ok (.ldc2_w 82, 3) := by decide +kernel
theorem dX0_thursday_4 : decode cX0_thursday 4 = .ok (.ladd, 1) := by decide +kernel
theorem dX0_thursday_5 : decode cX0_thursday 5 = .ok (.lload_n 0, 1) := by decide +kernel
theorem dX0_thursday_6 : decode cX0_thursday 6 = .ok (.invokestatic 76, 3) := by decide +kernel
theorem dX0_thursday_9 : decode cX0_thursday 9 = .ok (.i2l, 1) := by decide +kernel
theorem dX0_thursday_10 : decode cX0_thursday 10 = .ok (.lsub, 1) := by decide +kernel
theorem dX0_thursday_11 : decode cX0_thursday 11 = .ok (.lreturn, 1) := by decide +kernel
theorem dX0_week_0 : decode cX0_week 0 = .ok (.lload_n 0, 1) := by decide +kernel
theorem dX0_week_1 : decode cX0_week 1 = .ok (.invokestatic 84, 3) := by decide +kernel
theorem dX0_week_4 : decode cX0_week 4 = .ok (.lstore_n 2, 1) := by decide +kernel
theorem dX0_week_5 : decode cX0_week 5 = .ok (.lload_n 2, 1) := by decide +kernel
theorem dX0_week_6 : decode cX0_week 6 = .ok (.invokestatic 88, 3) := by decide +kernel
theorem dX0_week_9 : decode cX0_week 9 = .ok (.iconst 1, 1) := by decide +kernel
theorem dX0_week_10 : decode cX0_week 10 = .ok (.iconst 1, 1) := by decide +kernel
theorem dX0_week_11 : decode cX0_week 11 = .ok (.invokestatic 62, 3) := by decide +kernel
theorem dX0_week_14 : decode cX0_week 14 = .ok (.lstore 4, 2) := by decide +kernel
theorem dX0_week_16 : decode cX0_week 16 = .ok (.lload_n 2, 1) := by decide +kernel
theorem dX0_week_17 : decode cX0_week 17 = .ok (.lload 4, 2) := by decide +kernel
theorem dX0_week_19 : decode cX0_week 19 = .ok (.lsub, 1) := by decide +kernel
theorem dX0_week_20 : decode cX0_week 20 = .ok (.ldc2_w 15, 3) := by decide +kernel
theorem dX0_week_23 : decode cX0_week 23 = .ok (.ldiv, 1) := by decide +kernel
theorem dX0_week_24 : decode cX0_week 24 = .ok (.l2i, 1) := by decide +kernel
