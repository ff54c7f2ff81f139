theorem dX7_within_5 : decode cX7_within 5 = .ok (.iconst 1, 1) := by decide +kernel
theorem dX7_within_6 : decode cX7_within 6 = .ok (.invokestatic 96, 3) := by decide +kernel
theorem dX7_within_9 : decode cX7_within 9 = .ok (.ldc2_w 100, 3) := by decide +kernel
theorem dX7_within_12 : decode cX7_within 12 = .ok (.bipush 12, 2) := by decide +kernel
theorem dX7_within_14 : decode cX7_within 14 = .ok (.bipush 31, 2) := by decide +kernel
theorem dX7_within_16 : decode cX7_within 16 = .ok (.invokestatic 96, 3) := by decide +kernel
theorem dX7_within_19 : decode cX7_within 19 = .ok (.invokestatic 102, 3) := by decide +kernel
theorem dX7_within_22 : decode cX7_within 22 = .ok (.ireturn, 1) := by decide +kernel
theorem dX7_monthsOf_0 : decode cX7_monthsOf 0 = .ok (.aload_n 0, 1) := by decide +kernel
theorem dX7_monthsOf_1 : decode cX7_monthsOf 1 = .ok (.lload_n 1, 1) := by decide +kernel
theorem dX7_monthsOf_2 : decode cX7_monthsOf 2 = .ok (.invokevirtual 106, 3) := by decide +kernel
theorem dX7_monthsOf_5 : decode cX7_monthsOf 5 = .ok (.ldc2_w 110, 3) := by decide +kernel
theorem dX7_monthsOf_8 : decode cX7_monthsOf 8 = .ok (.aload_n 0, 1) := by decide +kernel
theorem dX7_monthsOf_9 : decode cX7_monthsOf 9 = .ok (.getfield 86, 3) := by decide +kernel
theorem dX7_monthsOf_12 : decode cX7_monthsOf 12 = .ok (.lmul, 1) := by decide +kernel
theorem dX7_monthsOf_13 : decode cX7_monthsOf 13 = .ok (.aload_n 0, 1) := by decide +kernel
theorem dX7_monthsOf_14 : decode cX7_monthsOf 14 = .ok (.getfield 83, 3) := by decide +kernel
theorem dX7_monthsOf_17 : decode cX7_monthsOf 17 = .ok (.i2l, 1) := by decide +kernel
theorem dX7_monthsOf_18 : decode cX7_monthsOf 18 = .ok (.ladd, 1) := by decide +kernel
theorem dX7_monthsOf_19 : decode cX7_monthsOf 19 = .ok (.lconst 1, 1) := by decide +kernel
theorem dX7_monthsOf_20 : decode cX7_monthsOf 20 = .ok (.lsub, 1) := by decide +kernel
theorem dX7_monthsOf_21 : decode cX7_monthsOf 21 = .ok (.lreturn, 1) := by decide +kernel
theorem dX7_monthly_0 : decode cX7_monthly 0 = .ok (.aload_n 0, 1) := by decide +kernel
theorem dX7_monthly_1 : decode cX7_monthly 1 = .ok (.lload_n 1, 1) := by decide +kernel
theorem dX7_monthly_2 : decode cX7_monthly 2 = .ok (.invokevirtual 106, 3) := by decide +kernel
theorem dX7_monthly_5 : decode cX7_monthly 5 = .ok (.lload_n 3, 1) := by decide +kernel
theorem dX7_monthly_6 : decode cX7_monthly 6 = .ok (.ldc2_w 110, 3) := by decide +kernel
theorem dX7_monthly_9 : decode cX7_monthly 9 = .ok (.invokestatic 59, 3) := by decide +kernel
theorem dX7_monthly_12 : decode cX7_monthly 12 = .ok (.lstore 5, 2) := by decide +kernel
theorem dX7_monthly_14 : decode cX7_monthly 14 = .ok (.lload_n 3, 1) := by decide +kernel
theorem dX7_monthly_15 : decode cX7_monthly 15 = .ok (.ldc2_w 110, 3) := by decide +kernel
theorem dX7_monthly_18 : decode cX7_monthly 18 = .ok (.invokestatic 47, 3) := by decide +kernel
theorem dX7_monthly_21 : decode cX7_monthly 21 = .ok (.l2i, 1) := by decide +kernel
theorem dX7_monthly_22 : decode cX7_monthly 22 = .ok (.iconst 1, 1) := by decide +kernel
theorem dX7_monthly_23 : decode cX7_monthly 23 = .ok (.iadd, 1) := by decide +kernel
theorem dX7_monthly_24 : decode cX7_monthly 24 = .ok (.istore 7, 2) := by decide +kernel
theorem dX7_monthly_26 : decode cX7_monthly 26 = .ok (.lload 5, 2) := by decide +kernel
theorem dX7_monthly_28 : decode cX7_monthly 28 = .ok (.iload 7, 2) := by decide +kernel
theorem dX7_monthly_30 : decode cX7_monthly 30 = .ok (.invokestatic 112, 3) := by decide +kernel
theorem dX7_monthly_33 : decode cX7_monthly 33 = .ok (.istore 8, 2) := by decide +kernel
theorem dX7_monthly_35 : decode cX7_monthly 35 = .ok (.lload 5, 2) := by decide +kernel
theorem dX7_monthly_37 : decode cX7_monthly 37 = .ok (.iload 7, 2) := by decide +kernel
theorem dX7_monthly_39 : decode cX7_monthly 39 = .ok (.aload_n 0, 1) := by decide +kernel
theorem dX7_monthly_40 : decode cX7_monthly 40 = .ok (.getfield 80, 3) := by decide +kernel
theorem dX7_monthly_43 : decode cX7_monthly 43 = .ok (.iload 8, 2) := by decide +kernel
theorem dX7_monthly_45 : decode cX7_monthly 45 = .ok (.if_icmp .ge 10, 3) := by decide +kernel
theorem dX7_monthly_48 : decode cX7_monthly 48 = .ok (.aload_n 0, 1) := by decide +kernel
theorem dX7_monthly_49 : decode cX7_monthly 49 = .ok (.getfield 80, 3) := by decide +kernel
theorem dX7_monthly_52 : decode cX7_monthly 52 = .ok (.goto 5, 3) := by decide +kernel
theorem dX7_monthly_55 : decode cX7_monthly 55 = .ok (.iload 8, 2) := by decide +kernel
theorem dX7_monthly_57 : decode cX7_monthly 57 = .ok (.invokestatic 96, 3) := by decide +kernel
theorem dX7_monthly_60 : decode cX7_monthly 60 = .ok (.lreturn, 1) := by decide +kernel
theorem dX7_monthWithin_0 : decode cX7_monthWithin 0 = .ok (.lload_n 0, 1) := by decide +kernel
theorem dX7_monthWithin_1 : decode cX7_monthWithin 1 = .ok (.ldc2_w 116, 3) := by decide +kernel
theorem dX7_monthWithin_4 : decode cX7_monthWithin 4 = .ok (.ldc2_w 118, 3) := by decide +kernel
theorem dX7_monthWithin_7 : decode cX7_monthWithin 7 = .ok (.invokestatic 102, 3) := by decide +kernel
theorem dX7_monthWithin_10 : decode cX7_monthWithin 10 = .ok (.ireturn, 1) := by decide +kernel
theorem dX7_isSlot_0 : decode cX7_isSlot 0 = .ok (.aload_n 0, 1) := by decide +kernel
theorem dX7_isSlot_1 : decode cX7_isSlot 1 = .ok (.iload_n 1, 1) := by decide +kernel
theorem dX7_isSlot_2 : decode cX7_isSlot 2 = .ok (.i2l, 1) := by decide +kernel
theorem dX7_isSlot_3 : decode cX7_isSlot 3 = .ok (.lconst 0, 1) := by decide +kernel
theorem dX7_isSlot_4 : decode cX7_isSlot 4 = .ok (.ldc2_w 92, 3) := by decide +kernel
theorem dX7_isSlot_7 : decode cX7_isSlot 7 = .ok (.invokestatic 102, 3) := by decide +kernel
theorem dX7_isSlot_10 : decode cX7_isSlot 10 = .ok (.ifCond .eq 7, 3) := by decide +kernel
theorem dX7_isSlot_13 : decode cX7_isSlot 13 = .ok (.iconst 0, 1) := by decide +kernel
theorem dX7_isSlot_14 : decode cX7_isSlot 14 = .ok (.goto 4, 3) := by decide +kernel
theorem dX7_isSlot_17 : decode cX7_isSlot 17 = .ok (.iconst 1, 1) := by decide +kernel
theorem dX7_isSlot_18 : decode cX7_isSlot 18 = .ok (.putfield 41, 3) := by decide +kernel
theorem dX7_isSlot_21 : decode cX7_isSlot 21 = .ok (.aload_n 0, 1) := by decide +kernel
theorem dX7_isSlot_22 : decode cX7_isSlot 22 = .ok (.getfield 41, 3) := by decide +kernel
theorem dX7_isSlot_25 : decode cX7_isSlot 25 = .ok (.ifCond .ne 7, 3) := by decide +kernel
theorem dX7_isSlot_28 : decode cX7_isSlot 28 = .ok (.iconst 1, 1) := by decide +kernel
theorem dX7_isSlot_29 : decode cX7_isSlot 29 = .ok (.goto 4, 3) := by decide +kernel
theorem dX7_isSlot_32 : decode cX7_isSlot 32 = .ok (.iconst 0, 1) := by decide +kernel
theorem dX7_isSlot_33 : decode cX7_isSlot 33 = .ok (.ireturn, 1) := by decide +kernel
theorem dX7_isDate_0 : decode cX7_isDate 0 = .ok (.lload_n 0, 1) := by decide +kernel
theorem dX7_isDate_1 : decode cX7_isDate 1 = .ok (.ldc2_w 94, 3) := by decide +kernel
theorem dX7_isDate_4 : decode cX7_isDate 4 = .ok (.ldc2_w 100, 3) := by decide +kernel
theorem dX7_isDate_7 : decode cX7_isDate 7 = .ok (.invokestatic 102, 3) := by decide +kernel
theorem dX7_isDate_10 : decode cX7_isDate 10 = .ok (.ifCond .eq 33, 3) := by decide +kernel
theorem dX7_isDate_13 : decode cX7_isDate 13 = .ok (.iload_n 2, 1) := by decide +kernel
theorem dX7_isDate_14 : decode cX7_isDate 14 = .ok (.i2l, 1) := by decide +kernel
theorem dX7_isDate_15 : decode cX7_isDate 15 = .ok (.lconst 1, 1) := by decide +kernel
theorem dX7_isDate_16 : decode cX7_isDate 16 = .ok (.ldc2_w 110, 3) := by decide +kernel
theorem dX7_isDate_19 : decode cX7_isDate 19 = .ok (.invokestatic 102, 3) := by decide +kernel
theorem dX7_isDate_22 : decode cX7_isDate 22 = .ok (.ifCond .eq 21, 3) := by decide +kernel
theorem dX7_isDate_25 : decode cX7_isDate 25 = .ok (.iload_n 3, 1) := by decide +kernel
theorem dX7_isDate_26 : decode cX7_isDate 26 = .ok (.iconst 1, 1) := by decide +kernel
theorem dX7_isDate_27 : decode cX7_isDate 27 = .ok (.if_icmp .lt 16, 3) := by decide +kernel
theorem dX7_isDate_30 : decode cX7_isDate 30 = .ok (.iload_n 3, 1) := by decide +kernel
theorem dX7_isDate_31 : decode cX7_isDate 31 = .ok (.lload_n 0, 1) := by decide +kernel
theorem dX7_isDate_32 : decode cX7_isDate 32 = .ok (.iload_n 2, 1) := by decide +kernel
theorem dX7_isDate_33 : decode cX7_isDate 33 = .ok (.invokestatic 112, 3) := by decide +kernel
theorem dX7_isDate_36 : decode cX7_isDate 36 = .ok (.if_icmp .gt 7, 3) := by decide +kernel
theorem dX7_isDate_39 : decode cX7_isDate 39 = .ok (.iconst 1, 1) := by decide +kernel
theorem dX7_isDate_40 : decode cX7_isDate 40 = .ok (.goto 4, 3) := by decide +kernel
theorem dX7_isDate_43 : decode cX7_isDate 43 = .ok (.iconst 0, 1) := by decide +kernel
theorem dX7_isDate_44 : decode cX7_isDate 44 = .ok (.ireturn, 1) := by decide +kernel
theorem dX7_date_0 : decode cX7_date 0 = .ok (.aload_n 0, 1) := by decide +kernel
theorem dX7_date_1 : decode cX7_date 1 = .ok (.iload_n 1, 1) := by decide +kernel
theorem dX7_date_2 : decode cX7_date 2 = .ok (.invokevirtual 120, 3) := by decide +kernel
theorem dX7_date_5 : decode cX7_date 5 = .ok (.ifCond .eq 53, 3) := by decide +kernel
theorem dX7_date_8 : decode cX7_date 8 = .ok (.aload_n 0, 1) := by decide +kernel
theorem dX7_date_9 : decode cX7_date 9 = .ok (.iload_n 2, 1) := by decide +kernel
theorem dX7_date_10 : decode cX7_date 10 = .ok (.i2l, 1) := by decide +kernel
theorem dX7_date_11 : decode cX7_date 11 = .ok (.iload_n 3, 1) := by decide +kernel
theorem dX7_date_12 : decode cX7_date 12 = .ok (.iload 4, 2) := by decide +kernel
theorem dX7_date_14 : decode cX7_date 14 = .ok (.invokestatic 124, 3) := by decide +kernel
theorem dX7_date_17 : decode cX7_date 17 = .ok (.ifCond .eq 7, 3) := by decide +kernel
theorem dX7_date_20 : decode cX7_date 20 = .ok (.iconst 0, 1) := by decide +kernel
theorem dX7_date_21 : decode cX7_date 21 = .ok (.goto 4, 3) := by decide +kernel
theorem dX7_date_24 : decode cX7_date 24 = .ok (.iconst 2, 1) := by decide +kernel
theorem dX7_date_25 : decode cX7_date 25 = .ok (.putfield 41, 3) := by decide +kernel
theorem dX7_date_28 : decode cX7_date 28 = .ok (.aload_n 0, 1) := by decide +kernel
theorem dX7_date_29 : decode cX7_date 29 = .ok (.getfield 7, 3) := by decide +kernel
theorem dX7_date_32 : decode cX7_date 32 = .ok (.iload_n 1, 1) := by decide +kernel
theorem dX7_date_33 : decode cX7_date 33 = .ok (.aload_n 0, 1) := by decide +kernel
theorem dX7_date_34 : decode cX7_date 34 = .ok (.getfield 41, 3) := by decide +kernel
theorem dX7_date_37 : decode cX7_date 37 = .ok (.ifCond .ne 14, 3) := by decide +kernel
theorem dX7_date_40 : decode cX7_date 40 = .ok (.iload_n 2, 1) := by decide +kernel
theorem dX7_date_41 : decode cX7_date 41 = .ok (.i2l, 1) := by decide +kernel
theorem dX7_date_42 : decode cX7_date 42 = .ok (.iload_n 3, 1) := by decide +kernel
theorem dX7_date_43 : decode cX7_date 43 = .ok (.iload 4, 2) := by decide +kernel
theorem dX7_date_45 : decode cX7_date 45 = .ok (.invokestatic 96, 3) := by decide +kernel
theorem dX7_date_48 : decode cX7_date 48 = .ok (.goto 9, 3) := by decide +kernel
theorem dX7_date_51 : decode cX7_date 51 = .ok (.aload_n 0, 1) := by decide +kernel
theorem dX7_date_52 : decode cX7_date 52 = .ok (.getfield 7, 3) := by decide +kernel
theorem dX7_date_55 : decode cX7_date 55 = .ok (.iload_n 1, 1) := by decide +kernel
theorem dX7_date_56 : decode cX7_date 56 = .ok (.laload, 1) := by decide +kernel
theorem dX7_date_57 : decode cX7_date 57 = .ok (.lastore, 1) := by decide +kernel
theorem dX7_date_58 : decode cX7_date 58 = .ok (.return_, 1) := by decide +kernel
theorem dX7_time_0 : decode cX7_time 0 = .ok (.aload_n 0, 1) := by decide +kernel
theorem dX7_time_1 : decode cX7_time 1 = .ok (.iload_n 1, 1) := by decide +kernel
theorem dX7_time_2 : decode cX7_time 2 = .ok (.invokevirtual 120, 3) := by decide +kernel
theorem dX7_time_5 : decode cX7_time 5 = .ok (.ifCond .eq 116, 3) := by decide +kernel
theorem dX7_time_8 : decode cX7_time 8 = .ok (.iload_n 2, 1) := by decide +kernel
theorem dX7_time_9 : decode cX7_time 9 = .ok (.i2l, 1) := by decide +kernel
theorem dX7_time_10 : decode cX7_time 10 = .ok (.lconst 0, 1) := by decide +kernel
theorem dX7_time_11 : decode cX7_time 11 = .ok (.ldc2_w 128, 3) := by decide +kernel
theorem dX7_time_14 : decode cX7_time 14 = .ok (.invokestatic 102, 3) := by decide +kernel
theorem dX7_time_17 : decode cX7_time 17 = .ok (.ifCond .eq 45, 3) := by decide +kernel
theorem dX7_time_20 : decode cX7_time 20 = .ok (.iload_n 3, 1) := by decide +kernel
theorem dX7_time_21 : decode cX7_time 21 = .ok (.i2l, 1) := by decide +kernel
theorem dX7_time_22 : decode cX7_time 22 = .ok (.lconst 0, 1) := by decide +kernel
theorem dX7_time_23 : decode cX7_time 23 = .ok (.ldc2_w 130, 3) := by decide +kernel
theorem dX7_time_26 : decode cX7_time 26 = .ok (.invokestatic 102, 3) := by decide +kernel
theorem dX7_time_29 : decode cX7_time 29 = .ok (.ifCond .eq 33, 3) := by decide +kernel
theorem dX7_time_32 : decode cX7_time 32 = .ok (.iload 4, 2) := by decide +kernel
theorem dX7_time_34 : decode cX7_time 34 = .ok (.i2l, 1) := by decide +kernel
theorem dX7_time_35 : decode cX7_time 35 = .ok (.lconst 0, 1) := by decide +kernel
theorem dX7_time_36 : decode cX7_time 36 = .ok (.ldc2_w 130, 3) := by decide +kernel
theorem dX7_time_39 : decode cX7_time 39 = .ok (.invokestatic 102, 3) := by decide +kernel
theorem dX7_time_42 : decode cX7_time 42 = .ok (.ifCond .eq 20, 3) := by decide +kernel
theorem dX7_time_45 : decode cX7_time 45 = .ok (.iload 5, 2) := by decide +kernel
theorem dX7_time_47 : decode cX7_time 47 = .ok (.i2l, 1) := by decide +kernel
theorem dX7_time_48 : decode cX7_time 48 = .ok (.lconst 0, 1) := by decide +kernel
theorem dX7_time_49 : decode cX7_time 49 = .ok (.ldc2_w 132, 3) := by decide +kernel
theorem dX7_time_52 : decode cX7_time 52 = .ok (.invokestatic 102, 3) := by decide +kernel
theorem dX7_time_55 : decode cX7_time 55 = .ok (.ifCond .eq 7, 3) := by decide +kernel
theorem dX7_time_58 : decode cX7_time 58 = .ok (.iconst 1, 1) := by decide +kernel
theorem dX7_time_59 : decode cX7_time 59 = .ok (.goto 4, 3) := by decide +kernel
theorem dX7_time_62 : decode cX7_time 62 = .ok (.iconst 0, 1) := by decide +kernel
theorem dX7_time_63 : decode cX7_time 63 = .ok (.istore 6, 2) := by decide +kernel
theorem dX7_time_65 : decode cX7_time 65 = .ok (.aload_n 0, 1) := by decide +kernel
theorem dX7_time_66 : decode cX7_time 66 = .ok (.iload 6, 2) := by decide +kernel
theorem dX7_time_68 : decode cX7_time 68 = .ok (.ifCond .eq 7, 3) := by decide +kernel
theorem dX7_time_71 : decode cX7_time 71 = .ok (.iconst 0, 1) := by decide +kernel
theorem dX7_time_72 : decode cX7_time 72 = .ok (.goto 4, 3) := by decide +kernel
theorem dX7_time_75 : decode cX7_time 75 = .ok (.iconst 2, 1) := by decide +kernel
theorem dX7_time_76 : decode cX7_time 76 = .ok (.putfield 41, 3) := by decide +kernel
theorem dX7_time_79 : decode cX7_time 79 = .ok (.aload_n 0, 1) := by decide +kernel
theorem dX7_time_80 : decode cX7_time 80 = .ok (.getfield 13, 3) := by decide +kernel
theorem dX7_time_83 : decode cX7_time 83 = .ok (.iload_n 1, 1) := by decide +kernel
theorem dX7_time_84 : decode cX7_time 84 = .ok (.iload 6, 2) := by decide +kernel
theorem dX7_time_86 : decode cX7_time 86 = .ok (.ifCond .eq 28, 3) := by decide +kernel
theorem dX7_time_89 : decode cX7_time 89 = .ok (.iload_n 2, 1) := by decide +kernel
theorem dX7_time_90 : decode cX7_time 90 = .ok (.sipush 3600, 3) := by decide +kernel
theorem dX7_time_93 : decode cX7_time 93 = .ok (.imul, 1) := by decide +kernel
theorem dX7_time_94 : decode cX7_time 94 = .ok (.iload_n 3, 1) := by decide +kernel
theorem dX7_time_95 : decode cX7_time 95 = .ok (.bipush 60, 2) := by decide +kernel
theorem dX7_time_97 : decode cX7_time 97 = .ok (.imul, 1) := by decide +kernel
theorem dX7_time_98 : decode cX7_time 98 = .ok (.iadd, 1) := by decide +kernel
theorem dX7_time_99 : decode cX7_time 99 = .ok (.iload 4, 2) := by decide +kernel
theorem dX7_time_101 : decode cX7_time 101 = .ok (.iadd, 1) := by decide +kernel
theorem dX7_time_102 : decode cX7_time 102 = .ok (.i2l, 1) := by decide +kernel
theorem dX7_time_103 : decode cX7_time 103 = .ok (.ldc2_w 134, 3) := by decide +kernel
theorem dX7_time_106 : decode cX7_time 106 = .ok (.lmul, 1) := by decide +kernel
theorem dX7_time_107 : decode cX7_time 107 = .ok (.iload 5, 2) := by decide +kernel
theorem dX7_time_109 : decode cX7_time 109 = .ok (.i2l, 1) := by decide +kernel
theorem dX7_time_110 : decode cX7_time 110 = .ok (.ladd, 1) := by decide +kernel
theorem dX7_time_111 : decode cX7_time 111 = .ok (.goto 9, 3) := by decide +kernel
theorem dX7_time_114 : decode cX7_time 114 = .ok (.aload_n 0, 1) := by decide +kernel
theorem dX7_time_115 : decode cX7_time 115 = .ok (.getfield 13, 3) := by decide +kernel
theorem dX7_time_118 : decode cX7_time 118 = .ok (.iload_n 1, 1) := by decide +kernel
theorem dX7_time_119 : decode cX7_time 119 = .ok (.laload, 1) := by decide +kernel
theorem dX7_time_120 : decode cX7_time 120 = .ok (.lastore, 1) := by decide +kernel
theorem dX7_time_121 : decode cX7_time 121 = .ok (.return_, 1) := by decide +kernel
theorem dX7_get_0 : decode cX7_get 0 = .ok (.aload_n 0, 1) := by decide +kernel
theorem dX7_get_1 : decode cX7_get 1 = .ok (.iload_n 1, 1) := by decide +kernel
theorem dX7_get_2 : decode cX7_get 2 = .ok (.invokevirtual 120, 3) := by decide +kernel
theorem dX7_get_5 : decode cX7_get 5 = .ok (.ifCond .ne 5, 3) := by decide +kernel
theorem dX7_get_8 : decode cX7_get 8 = .ok (.lconst 0, 1) := by decide +kernel
theorem dX7_get_9 : decode cX7_get 9 = .ok (.lreturn, 1) := by decide +kernel
theorem dX7_get_10 : decode cX7_get 10 = .ok (.aload_n 0, 1) := by decide +kernel
theorem dX7_get_11 : decode cX7_get 11 = .ok (.iload_n 2, 1) := by decide +kernel
theorem dX7_get_12 : decode cX7_get 12 = .ok (.i2l, 1) := by decide +kernel
theorem dX7_get_13 : decode cX7_get 13 = .ok (.lconst 0, 1) := by decide +kernel
theorem dX7_get_14 : decode cX7_get 14 = .ok (.ldc2_w 136, 3) := by decide +kernel
theorem dX7_get_17 : decode cX7_get 17 = .ok (.invokestatic 102, 3) := by decide +kernel
theorem dX7_get_20 : decode cX7_get 20 = .ok (.ifCond .eq 7, 3) := by decide +kernel
theorem dX7_get_23 : decode cX7_get 23 = .ok (.iconst 0, 1) := by decide +kernel
theorem dX7_get_24 : decode cX7_get 24 = .ok (.goto 4, 3) := by decide +kernel
theorem dX7_get_27 : decode cX7_get 27 = .ok (.iconst 2, 1) := by decide +kernel
theorem dX7_get_28 : decode cX7_get 28 = .ok (.putfield 41, 3) := by decide +kernel
theorem dX7_get_31 : decode cX7_get 31 = .ok (.aload_n 0, 1) := by decide +kernel
theorem dX7_get_32 : decode cX7_get 32 = .ok (.getfield 7, 3) := by decide +kernel
theorem dX7_get_35 : decode cX7_get 35 = .ok (.iload_n 1, 1) := by decide +kernel
theorem dX7_get_36 : decode cX7_get 36 = .ok (.laload, 1) := by decide +kernel
theorem dX7_get_37 : decode cX7_get 37 = .ok (.lstore_n 3, 1) := by decide +kernel
theorem dX7_get_38 : decode cX7_get 38 = .ok (.iload_n 2, 1) := by decide +kernel
theorem dX7_get_39 : decode cX7_get 39 = .ok (.iconst 4, 1) := by decide +kernel
theorem dX7_get_40 : decode cX7_get 40 = .ok (.if_icmp .eq 8, 3) := by decide +kernel
theorem dX7_get_43 : decode cX7_get 43 = .ok (.iload_n 2, 1) := by decide +kernel
theorem dX7_get_44 : decode cX7_get 44 = .ok (.iconst 5, 1) := by decide +kernel
theorem dX7_get_45 : decode cX7_get 45 = .ok (.if_icmp .ne 18, 3) := by decide +kernel
theorem dX7_get_48 : decode cX7_get 48 = .ok (.iload_n 2, 1) := by decide +kernel
theorem dX7_get_49 : decode cX7_get 49 = .ok (.iconst 4, 1) := by decide +kernel
theorem dX7_get_50 : decode cX7_get 50 = .ok (.if_icmp .ne 7, 3) := by decide +kernel
theorem dX7_get_53 : decode cX7_get 53 = .ok (.lload_n 3, 1) := by decide +kernel
theorem dX7_get_54 : decode cX7_get 54 = .ok (.goto 8, 3) := by decide +kernel
theorem dX7_get_57 : decode cX7_get 57 = .ok (.lload_n 3, 1) := by decide +kernel
theorem dX7_get_58 : decode cX7_get 58 = .ok (.invokestatic 138, 3) := by decide +kernel
theorem dX7_get_61 : decode cX7_get 61 = .ok (.i2l, 1) := by decide +kernel
theorem dX7_get_62 : decode cX7_get 62 = .ok (.lreturn, 1) := by decide +kernel
theorem dX7_get_63 : decode cX7_get 63 = .ok (.iload_n 2, 1) := by decide +kernel
theorem dX7_get_64 : decode cX7_get 64 = .ok (.iconst 5, 1) := by decide +kernel
theorem dX7_get_65 : decode cX7_get 65 = .ok (.if_icmp .le 20, 3) := by decide +kernel
theorem dX7_get_68 : decode cX7_get 68 = .ok (.iload_n 2, 1) := by decide +kernel
theorem dX7_get_69 : decode cX7_get 69 = .ok (.bipush 12, 2) := by decide +kernel
theorem dX7_get_71 : decode cX7_get 71 = .ok (.if_icmp .ge 14, 3) := by decide +kernel
theorem dX7_get_74 : decode cX7_get 74 = .ok (.aload_n 0, 1) := by decide +kernel
theorem dX7_get_75 : decode cX7_get 75 = .ok (.getfield 13, 3) := by decide +kernel
theorem dX7_get_78 : decode cX7_get 78 = .ok (.iload_n 1, 1) := by decide +kernel
theorem dX7_get_79 : decode cX7_get 79 = .ok (.laload, 1) := by decide +kernel
theorem dX7_get_80 : decode cX7_get 80 = .ok (.iload_n 2, 1) := by decide +kernel
theorem dX7_get_81 : decode cX7_get 81 = .ok (.invokestatic 142, 3) := by decide +kernel
theorem dX7_get_84 : decode cX7_get 84 = .ok (.lreturn, 1) := by decide +kernel
theorem dX7_get_85 : decode cX7_get 85 = .ok (.iload_n 2, 1) := by decide +kernel
theorem dX7_get_86 : decode cX7_get 86 = .ok (.bipush 13, 2) := by decide +kernel
theorem dX7_get_88 : decode cX7_get 88 = .ok (.if_icmp .eq 9, 3) := by decide +kernel
theorem dX7_get_91 : decode cX7_get 91 = .ok (.iload_n 2, 1) := by decide +kernel
theorem dX7_get_92 : decode cX7_get 92 = .ok (.bipush 14, 2) := by decide +kernel
theorem dX7_get_94 : decode cX7_get 94 = .ok (.if_icmp .ne 54, 3) := by decide +kernel
theorem dX7_get_97 : decode cX7_get 97 = .ok (.lload_n 3, 1) := by decide +kernel
theorem dX7_get_98 : decode cX7_get 98 = .ok (.ldc2_w 45, 3) := by decide +kernel
theorem dX7_get_101 : decode cX7_get 101 = .ok (.ladd, 1) := by decide +kernel
theorem dX7_get_102 : decode cX7_get 102 = .ok (.lload_n 3, 1) := by decide +kernel
theorem dX7_get_103 : decode cX7_get 103 = .ok (.invokestatic 138, 3) := by decide +kernel
theorem dX7_get_106 : decode cX7_get 106 = .ok (.i2l, 1) := by decide +kernel
theorem dX7_get_107 : decode cX7_get 107 = .ok (.lsub, 1) := by decide +kernel
theorem dX7_get_108 : decode cX7_get 108 = .ok (.lstore 5, 2) := by decide +kernel
theorem dX7_get_110 : decode cX7_get 110 = .ok (.aload_n 0, 1) := by decide +kernel
theorem dX7_get_111 : decode cX7_get 111 = .ok (.lload 5, 2) := by decide +kernel
theorem dX7_get_113 : decode cX7_get 113 = .ok (.invokevirtual 106, 3) := by decide +kernel
theorem dX7_get_116 : decode cX7_get 116 = .ok (.iload_n 2, 1) := by decide +kernel
theorem dX7_get_117 : decode cX7_get 117 = .ok (.bipush 14, 2) := by decide +kernel
theorem dX7_get_119 : decode cX7_get 119 = .ok (.if_icmp .ne 10, 3) := by decide +kernel
theorem dX7_get_122 : decode cX7_get 122 = .ok (.aload_n 0, 1) := by decide +kernel
theorem dX7_get_123 : decode cX7_get 123 = .ok (.getfield 86, 3) := by decide +kernel
theorem dX7_get_126 : decode cX7_get 126 = .ok (.goto 21, 3) := by decide +kernel
theorem dX7_get_129 : decode cX7_get 129 = .ok (.lload 5, 2) := by decide +kernel
theorem dX7_get_131 : decode cX7_get 131 = .ok (.aload_n 0, 1) := by decide +kernel
theorem dX7_get_132 : decode cX7_get 132 = .ok (.getfield 86, 3) := by decide +kernel
theorem dX7_get_135 : decode cX7_get 135 = .ok (.iconst 1, 1) := by decide +kernel
theorem dX7_get_136 : decode cX7_get 136 = .ok (.iconst 1, 1) := by decide +kernel
theorem dX7_get_137 : decode cX7_get 137 = .ok (.invokestatic 96, 3) := by decide +kernel
theorem dX7_get_140 : decode cX7_get 140 = .ok (.lsub, 1) := by decide +kernel
theorem dX7_get_141 : decode cX7_get 141 = .ok (.ldc2_w 92, 3) := by decide +kernel
theorem dX7_get_144 : decode cX7_get 144 = .ok (.ldiv, 1) := by decide +kernel
theorem dX7_get_145 : decode cX7_get 145 = .ok (.lconst 1, 1) := by decide +kernel
theorem dX7_get_146 : decode cX7_get 146 = .ok (.ladd, 1) := by decide +kernel
theorem dX7_get_147 : decode cX7_get 147 = .ok (.lreturn, 1) := by decide +kernel
theorem dX7_get_148 : decode cX7_get 148 = .ok (.aload_n 0, 1) := by decide +kernel
theorem dX7_get_149 : decode cX7_get 149 = .ok (.lload_n 3, 1) := by decide +kernel
theorem dX7_get_150 : decode cX7_get 150 = .ok (.invokevirtual 106, 3) := by decide +kernel
theorem dX7_get_153 : decode cX7_get 153 = .ok (.iload_n 2, 1) := by decide +kernel
theorem dX7_get_154 : decode cX7_get 154 = .ok (.iconst 3, 1) := by decide +kernel
theorem dX7_get_155 : decode cX7_get 155 = .ok (.if_icmp .ge 42, 3) := by decide +kernel
theorem dX7_get_158 : decode cX7_get 158 = .ok (.iload_n 2, 1) := by decide +kernel
theorem dX7_get_159 : decode cX7_get 159 = .ok (.ifCond .ne 10, 3) := by decide +kernel
theorem dX7_get_162 : decode cX7_get 162 = .ok (.aload_n 0, 1) := by decide +kernel
theorem dX7_get_163 : decode cX7_get 163 = .ok (.getfield 86, 3) := by decide +kernel
theorem dX7_get_166 : decode cX7_get 166 = .ok (.goto 30, 3) := by decide +kernel
theorem dX7_get_169 : decode cX7_get 169 = .ok (.iload_n 2, 1) := by decide +kernel
theorem dX7_get_170 : decode cX7_get 170 = .ok (.iconst 1, 1) := by decide +kernel
theorem dX7_get_171 : decode cX7_get 171 = .ok (.if_icmp .ne 11, 3) := by decide +kernel
theorem dX7_get_174 : decode cX7_get 174 = .ok (.aload_n 0, 1) := by decide +kernel
theorem dX7_get_175 : decode cX7_get 175 = .ok (.getfield 83, 3) := by decide +kernel
theorem dX7_get_178 : decode cX7_get 178 = .ok (.i2l, 1) := by decide +kernel
theorem dX7_get_179 : decode cX7_get 179 = .ok (.goto 17, 3) := by decide +kernel
