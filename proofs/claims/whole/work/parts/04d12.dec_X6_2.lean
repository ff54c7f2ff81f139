theorem dX6_text_29 : decode cX6_text 29 = .ok (.aload_n 0, 1) := by decide +kernel
theorem dX6_text_30 : decode cX6_text 30 = .ok (.getfield 35, 3) := by decide +kernel
theorem dX6_text_33 : decode cX6_text 33 = .ok (.iload_n 2, 1) := by decide +kernel
theorem dX6_text_34 : decode cX6_text 34 = .ok (.invokevirtual 275, 3) := by decide +kernel
theorem dX6_text_37 : decode cX6_text 37 = .ok (.ireturn, 1) := by decide +kernel
theorem dX6_slotAt_0 : decode cX6_slotAt 0 = .ok (.iload_n 1, 1) := by decide +kernel
theorem dX6_slotAt_1 : decode cX6_slotAt 1 = .ok (.ifCond .lt 9, 3) := by decide +kernel
theorem dX6_slotAt_4 : decode cX6_slotAt 4 = .ok (.iload_n 1, 1) := by decide +kernel
theorem dX6_slotAt_5 : decode cX6_slotAt 5 = .ok (.bipush 8, 2) := by decide +kernel
theorem dX6_slotAt_7 : decode cX6_slotAt 7 = .ok (.if_icmp .lt 14, 3) := by decide +kernel
theorem dX6_slotAt_10 : decode cX6_slotAt 10 = .ok (.new 279, 3) := by decide +kernel
theorem dX6_slotAt_13 : decode cX6_slotAt 13 = .ok (.dup, 1) := by decide +kernel
theorem dX6_slotAt_14 : decode cX6_slotAt 14 = .ok (.ldc_w 281, 3) := by decide +kernel
theorem dX6_slotAt_17 : decode cX6_slotAt 17 = .ok (.invokespecial 283, 3) := by decide +kernel
theorem dX6_slotAt_20 : decode cX6_slotAt 20 = .ok (.athrow, 1) := by decide +kernel
theorem dX6_slotAt_21 : decode cX6_slotAt 21 = .ok (.aload_n 0, 1) := by decide +kernel
theorem dX6_slotAt_22 : decode cX6_slotAt 22 = .ok (.getfield 13, 3) := by decide +kernel
theorem dX6_slotAt_25 : decode cX6_slotAt 25 = .ok (.iload_n 1, 1) := by decide +kernel
theorem dX6_slotAt_26 : decode cX6_slotAt 26 = .ok (.aaload, 1) := by decide +kernel
theorem dX6_slotAt_27 : decode cX6_slotAt 27 = .ok (.areturn, 1) := by decide +kernel
theorem dX6_isZone_0 : decode cX6_isZone 0 = .ok (.iload_n 0, 1) := by decide +kernel
theorem dX6_isZone_1 : decode cX6_isZone 1 = .ok (.ifCond .lt 12, 3) := by decide +kernel
theorem dX6_isZone_4 : decode cX6_isZone 4 = .ok (.iload_n 0, 1) := by decide +kernel
theorem dX6_isZone_5 : decode cX6_isZone 5 = .ok (.iconst 4, 1) := by decide +kernel
theorem dX6_isZone_6 : decode cX6_isZone 6 = .ok (.if_icmp .ge 7, 3) := by decide +kernel
theorem dX6_isZone_9 : decode cX6_isZone 9 = .ok (.iconst 1, 1) := by decide +kernel
theorem dX6_isZone_10 : decode cX6_isZone 10 = .ok (.goto 4, 3) := by decide +kernel
theorem dX6_isZone_13 : decode cX6_isZone 13 = .ok (.iconst 0, 1) := by decide +kernel
theorem dX6_isZone_14 : decode cX6_isZone 14 = .ok (.ireturn, 1) := by decide +kernel
theorem dX6_isOffset_0 : decode cX6_isOffset 0 = .ok (.iload_n 0, 1) := by decide +kernel
theorem dX6_isOffset_1 : decode cX6_isOffset 1 = .ok (.ldc_w 284, 3) := by decide +kernel
theorem dX6_isOffset_4 : decode cX6_isOffset 4 = .ok (.if_icmp .lt 14, 3) := by decide +kernel
theorem dX6_isOffset_7 : decode cX6_isOffset 7 = .ok (.iload_n 0, 1) := by decide +kernel
theorem dX6_isOffset_8 : decode cX6_isOffset 8 = .ok (.ldc_w 285, 3) := by decide +kernel
theorem dX6_isOffset_11 : decode cX6_isOffset 11 = .ok (.if_icmp .gt 7, 3) := by decide +kernel
theorem dX6_isOffset_14 : decode cX6_isOffset 14 = .ok (.iconst 1, 1) := by decide +kernel
theorem dX6_isOffset_15 : decode cX6_isOffset 15 = .ok (.goto 4, 3) := by decide +kernel
theorem dX6_isOffset_18 : decode cX6_isOffset 18 = .ok (.iconst 0, 1) := by decide +kernel
theorem dX6_isOffset_19 : decode cX6_isOffset 19 = .ok (.ireturn, 1) := by decide +kernel
theorem dX6_isMoment_0 : decode cX6_isMoment 0 = .ok (.lload_n 0, 1) := by decide +kernel
theorem dX6_isMoment_1 : decode cX6_isMoment 1 = .ok (.ldc2_w 286, 3) := by decide +kernel
theorem dX6_isMoment_4 : decode cX6_isMoment 4 = .ok (.lcmp, 1) := by decide +kernel
theorem dX6_isMoment_5 : decode cX6_isMoment 5 = .ok (.ifCond .lt 15, 3) := by decide +kernel
theorem dX6_isMoment_8 : decode cX6_isMoment 8 = .ok (.lload_n 0, 1) := by decide +kernel
theorem dX6_isMoment_9 : decode cX6_isMoment 9 = .ok (.ldc2_w 288, 3) := by decide +kernel
theorem dX6_isMoment_12 : decode cX6_isMoment 12 = .ok (.lcmp, 1) := by decide +kernel
theorem dX6_isMoment_13 : decode cX6_isMoment 13 = .ok (.ifCond .gt 7, 3) := by decide +kernel
theorem dX6_isMoment_16 : decode cX6_isMoment 16 = .ok (.iconst 1, 1) := by decide +kernel
theorem dX6_isMoment_17 : decode cX6_isMoment 17 = .ok (.goto 4, 3) := by decide +kernel
theorem dX6_isMoment_20 : decode cX6_isMoment 20 = .ok (.iconst 0, 1) := by decide +kernel
theorem dX6_isMoment_21 : decode cX6_isMoment 21 = .ok (.ireturn, 1) := by decide +kernel
theorem dX6_isTimeField_0 : decode cX6_isTimeField 0 = .ok (.iload_n 0, 1) := by decide +kernel
theorem dX6_isTimeField_1 : decode cX6_isTimeField 1 = .ok (.bipush 6, 2) := by decide +kernel
theorem dX6_isTimeField_3 : decode cX6_isTimeField 3 = .ok (.if_icmp .lt 13, 3) := by decide +kernel
theorem dX6_isTimeField_6 : decode cX6_isTimeField 6 = .ok (.iload_n 0, 1) := by decide +kernel
theorem dX6_isTimeField_7 : decode cX6_isTimeField 7 = .ok (.bipush 11, 2) := by decide +kernel
theorem dX6_isTimeField_9 : decode cX6_isTimeField 9 = .ok (.if_icmp .gt 7, 3) := by decide +kernel
theorem dX6_isTimeField_12 : decode cX6_isTimeField 12 = .ok (.iconst 1, 1) := by decide +kernel
theorem dX6_isTimeField_13 : decode cX6_isTimeField 13 = .ok (.goto 4, 3) := by decide +kernel
theorem dX6_isTimeField_16 : decode cX6_isTimeField 16 = .ok (.iconst 0, 1) := by decide +kernel
theorem dX6_isTimeField_17 : decode cX6_isTimeField 17 = .ok (.ireturn, 1) := by decide +kernel
theorem dX6_isUnit_0 : decode cX6_isUnit 0 = .ok (.iload_n 0, 1) := by decide +kernel
theorem dX6_isUnit_1 : decode cX6_isUnit 1 = .ok (.ifCond .lt 13, 3) := by decide +kernel
theorem dX6_isUnit_4 : decode cX6_isUnit 4 = .ok (.iload_n 0, 1) := by decide +kernel
theorem dX6_isUnit_5 : decode cX6_isUnit 5 = .ok (.bipush 13, 2) := by decide +kernel
theorem dX6_isUnit_7 : decode cX6_isUnit 7 = .ok (.if_icmp .gt 7, 3) := by decide +kernel
theorem dX6_isUnit_10 : decode cX6_isUnit 10 = .ok (.iconst 1, 1) := by decide +kernel
theorem dX6_isUnit_11 : decode cX6_isUnit 11 = .ok (.goto 4, 3) := by decide +kernel
theorem dX6_isUnit_14 : decode cX6_isUnit 14 = .ok (.iconst 0, 1) := by decide +kernel
theorem dX6_isUnit_15 : decode cX6_isUnit 15 = .ok (.ireturn, 1) := by decide +kernel
theorem dX6_addUnits_0 : decode cX6_addUnits 0 = .ok (.iload_n 3, 1) := by decide +kernel
theorem dX6_addUnits_1 : decode cX6_addUnits 1 = .ok (.bipush 7, 2) := by decide +kernel
theorem dX6_addUnits_3 : decode cX6_addUnits 3 = .ok (.if_icmp .lt 21, 3) := by decide +kernel
theorem dX6_addUnits_6 : decode cX6_addUnits 6 = .ok (.lload_n 1, 1) := by decide +kernel
theorem dX6_addUnits_7 : decode cX6_addUnits 7 = .ok (.ldc2_w 290, 3) := by decide +kernel
theorem dX6_addUnits_10 : decode cX6_addUnits 10 = .ok (.lcmp, 1) := by decide +kernel
theorem dX6_addUnits_11 : decode cX6_addUnits 11 = .ok (.ifCond .lt 11, 3) := by decide +kernel
theorem dX6_addUnits_14 : decode cX6_addUnits 14 = .ok (.lload_n 1, 1) := by decide +kernel
theorem dX6_addUnits_15 : decode cX6_addUnits 15 = .ok (.ldc2_w 292, 3) := by decide +kernel
theorem dX6_addUnits_18 : decode cX6_addUnits 18 = .ok (.lcmp, 1) := by decide +kernel
theorem dX6_addUnits_19 : decode cX6_addUnits 19 = .ok (.ifCond .le 5, 3) := by decide +kernel
theorem dX6_addUnits_22 : decode cX6_addUnits 22 = .ok (.iconst 0, 1) := by decide +kernel
theorem dX6_addUnits_23 : decode cX6_addUnits 23 = .ok (.ireturn, 1) := by decide +kernel
theorem dX6_addUnits_24 : decode cX6_addUnits 24 = .ok (.iload_n 3, 1) := by decide +kernel
theorem dX6_addUnits_25 : decode cX6_addUnits 25 = .ok (.bipush 8, 2) := by decide +kernel
theorem dX6_addUnits_27 : decode cX6_addUnits 27 = .ok (.if_icmp .le 19, 3) := by decide +kernel
theorem dX6_addUnits_30 : decode cX6_addUnits 30 = .ok (.aload_n 0, 1) := by decide +kernel
theorem dX6_addUnits_31 : decode cX6_addUnits 31 = .ok (.aload_n 0, 1) := by decide +kernel
theorem dX6_addUnits_32 : decode cX6_addUnits 32 = .ok (.invokevirtual 158, 3) := by decide +kernel
theorem dX6_addUnits_35 : decode cX6_addUnits 35 = .ok (.lload_n 1, 1) := by decide +kernel
theorem dX6_addUnits_36 : decode cX6_addUnits 36 = .ok (.iload_n 3, 1) := by decide +kernel
theorem dX6_addUnits_37 : decode cX6_addUnits 37 = .ok (.invokestatic 123, 3) := by decide +kernel
theorem dX6_addUnits_40 : decode cX6_addUnits 40 = .ok (.lmul, 1) := by decide +kernel
theorem dX6_addUnits_41 : decode cX6_addUnits 41 = .ok (.ladd, 1) := by decide +kernel
theorem dX6_addUnits_42 : decode cX6_addUnits 42 = .ok (.invokevirtual 294, 3) := by decide +kernel
theorem dX6_addUnits_45 : decode cX6_addUnits 45 = .ok (.ireturn, 1) := by decide +kernel
theorem dX6_addUnits_46 : decode cX6_addUnits 46 = .ok (.iload_n 3, 1) := by decide +kernel
theorem dX6_addUnits_47 : decode cX6_addUnits 47 = .ok (.bipush 8, 2) := by decide +kernel
theorem dX6_addUnits_49 : decode cX6_addUnits 49 = .ok (.if_icmp .ne 14, 3) := by decide +kernel
theorem dX6_addUnits_52 : decode cX6_addUnits 52 = .ok (.aload_n 0, 1) := by decide +kernel
theorem dX6_addUnits_53 : decode cX6_addUnits 53 = .ok (.lload_n 1, 1) := by decide +kernel
theorem dX6_addUnits_54 : decode cX6_addUnits 54 = .ok (.ldc2_w 134, 3) := by decide +kernel
theorem dX6_addUnits_57 : decode cX6_addUnits 57 = .ok (.lmul, 1) := by decide +kernel
theorem dX6_addUnits_58 : decode cX6_addUnits 58 = .ok (.lconst 1, 1) := by decide +kernel
theorem dX6_addUnits_59 : decode cX6_addUnits 59 = .ok (.invokevirtual 297, 3) := by decide +kernel
theorem dX6_addUnits_62 : decode cX6_addUnits 62 = .ok (.ireturn, 1) := by decide +kernel
theorem dX6_addUnits_63 : decode cX6_addUnits 63 = .ok (.aload_n 0, 1) := by decide +kernel
theorem dX6_addUnits_64 : decode cX6_addUnits 64 = .ok (.lload_n 1, 1) := by decide +kernel
theorem dX6_addUnits_65 : decode cX6_addUnits 65 = .ok (.iload_n 3, 1) := by decide +kernel
theorem dX6_addUnits_66 : decode cX6_addUnits 66 = .ok (.invokestatic 145, 3) := by decide +kernel
theorem dX6_addUnits_69 : decode cX6_addUnits 69 = .ok (.invokevirtual 297, 3) := by decide +kernel
theorem dX6_addUnits_72 : decode cX6_addUnits 72 = .ok (.ireturn, 1) := by decide +kernel
theorem dX6_unitsPerDay_0 : decode cX6_unitsPerDay 0 = .ok (.iload_n 0, 1) := by decide +kernel
theorem dX6_unitsPerDay_1 : decode cX6_unitsPerDay 1 = .ok (.tableswitch 71 0 6 #[43, 47, 51, 55, 59, 63, 67], 43) := by decide +kernel
theorem dX6_unitsPerDay_44 : decode cX6_unitsPerDay 44 = .ok (.ldc2_w 148, 3) := by decide +kernel
theorem dX6_unitsPerDay_47 : decode cX6_unitsPerDay 47 = .ok (.lreturn, 1) := by decide +kernel
theorem dX6_unitsPerDay_48 : decode cX6_unitsPerDay 48 = .ok (.ldc2_w 300, 3) := by decide +kernel
theorem dX6_unitsPerDay_51 : decode cX6_unitsPerDay 51 = .ok (.lreturn, 1) := by decide +kernel
theorem dX6_unitsPerDay_52 : decode cX6_unitsPerDay 52 = .ok (.ldc2_w 302, 3) := by decide +kernel
theorem dX6_unitsPerDay_55 : decode cX6_unitsPerDay 55 = .ok (.lreturn, 1) := by decide +kernel
theorem dX6_unitsPerDay_56 : decode cX6_unitsPerDay 56 = .ok (.ldc2_w 214, 3) := by decide +kernel
theorem dX6_unitsPerDay_59 : decode cX6_unitsPerDay 59 = .ok (.lreturn, 1) := by decide +kernel
theorem dX6_unitsPerDay_60 : decode cX6_unitsPerDay 60 = .ok (.ldc2_w 304, 3) := by decide +kernel
theorem dX6_unitsPerDay_63 : decode cX6_unitsPerDay 63 = .ok (.lreturn, 1) := by decide +kernel
theorem dX6_unitsPerDay_64 : decode cX6_unitsPerDay 64 = .ok (.ldc2_w 306, 3) := by decide +kernel
theorem dX6_unitsPerDay_67 : decode cX6_unitsPerDay 67 = .ok (.lreturn, 1) := by decide +kernel
theorem dX6_unitsPerDay_68 : decode cX6_unitsPerDay 68 = .ok (.ldc2_w 308, 3) := by decide +kernel
theorem dX6_unitsPerDay_71 : decode cX6_unitsPerDay 71 = .ok (.lreturn, 1) := by decide +kernel
theorem dX6_unitsPerDay_72 : decode cX6_unitsPerDay 72 = .ok (.lconst 1, 1) := by decide +kernel
theorem dX6_unitsPerDay_73 : decode cX6_unitsPerDay 73 = .ok (.lreturn, 1) := by decide +kernel
theorem dX6_monthsOfUnit_0 : decode cX6_monthsOfUnit 0 = .ok (.iload_n 0, 1) := by decide +kernel
theorem dX6_monthsOfUnit_1 : decode cX6_monthsOfUnit 1 = .ok (.tableswitch 47 10 13 #[31, 35, 39, 43], 31) := by decide +kernel
theorem dX6_monthsOfUnit_32 : decode cX6_monthsOfUnit 32 = .ok (.ldc2_w 310, 3) := by decide +kernel
theorem dX6_monthsOfUnit_35 : decode cX6_monthsOfUnit 35 = .ok (.lreturn, 1) := by decide +kernel
theorem dX6_monthsOfUnit_36 : decode cX6_monthsOfUnit 36 = .ok (.ldc2_w 152, 3) := by decide +kernel
theorem dX6_monthsOfUnit_39 : decode cX6_monthsOfUnit 39 = .ok (.lreturn, 1) := by decide +kernel
theorem dX6_monthsOfUnit_40 : decode cX6_monthsOfUnit 40 = .ok (.ldc2_w 312, 3) := by decide +kernel
theorem dX6_monthsOfUnit_43 : decode cX6_monthsOfUnit 43 = .ok (.lreturn, 1) := by decide +kernel
theorem dX6_monthsOfUnit_44 : decode cX6_monthsOfUnit 44 = .ok (.ldc2_w 314, 3) := by decide +kernel
theorem dX6_monthsOfUnit_47 : decode cX6_monthsOfUnit 47 = .ok (.lreturn, 1) := by decide +kernel
theorem dX6_monthsOfUnit_48 : decode cX6_monthsOfUnit 48 = .ok (.lconst 1, 1) := by decide +kernel
theorem dX6_monthsOfUnit_49 : decode cX6_monthsOfUnit 49 = .ok (.lreturn, 1) := by decide +kernel
theorem dX6_wholeUnits_0 : decode cX6_wholeUnits 0 = .ok (.lload_n 2, 1) := by decide +kernel
theorem dX6_wholeUnits_1 : decode cX6_wholeUnits 1 = .ok (.lconst 0, 1) := by decide +kernel
theorem dX6_wholeUnits_2 : decode cX6_wholeUnits 2 = .ok (.lcmp, 1) := by decide +kernel
theorem dX6_wholeUnits_3 : decode cX6_wholeUnits 3 = .ok (.ifCond .le 9, 3) := by decide +kernel
theorem dX6_wholeUnits_6 : decode cX6_wholeUnits 6 = .ok (.lload_n 0, 1) := by decide +kernel
theorem dX6_wholeUnits_7 : decode cX6_wholeUnits 7 = .ok (.lload_n 2, 1) := by decide +kernel
theorem dX6_wholeUnits_8 : decode cX6_wholeUnits 8 = .ok (.ldiv, 1) := by decide +kernel
theorem dX6_wholeUnits_9 : decode cX6_wholeUnits 9 = .ok (.goto 4, 3) := by decide +kernel
theorem dX6_wholeUnits_12 : decode cX6_wholeUnits 12 = .ok (.lconst 0, 1) := by decide +kernel
theorem dX6_wholeUnits_13 : decode cX6_wholeUnits 13 = .ok (.lreturn, 1) := by decide +kernel
theorem dX6_isLongOfNanos_0 : decode cX6_isLongOfNanos 0 = .ok (.lload_n 0, 1) := by decide +kernel
theorem dX6_isLongOfNanos_1 : decode cX6_isLongOfNanos 1 = .ok (.lconst 0, 1) := by decide +kernel
theorem dX6_isLongOfNanos_2 : decode cX6_isLongOfNanos 2 = .ok (.lcmp, 1) := by decide +kernel
theorem dX6_isLongOfNanos_3 : decode cX6_isLongOfNanos 3 = .ok (.ifCond .le 23, 3) := by decide +kernel
theorem dX6_isLongOfNanos_6 : decode cX6_isLongOfNanos 6 = .ok (.lload_n 0, 1) := by decide +kernel
theorem dX6_isLongOfNanos_7 : decode cX6_isLongOfNanos 7 = .ok (.ldc2_w 316, 3) := by decide +kernel
theorem dX6_isLongOfNanos_10 : decode cX6_isLongOfNanos 10 = .ok (.lload_n 2, 1) := by decide +kernel
theorem dX6_isLongOfNanos_11 : decode cX6_isLongOfNanos 11 = .ok (.lsub, 1) := by decide +kernel
theorem dX6_isLongOfNanos_12 : decode cX6_isLongOfNanos 12 = .ok (.ldc2_w 148, 3) := by decide +kernel
theorem dX6_isLongOfNanos_15 : decode cX6_isLongOfNanos 15 = .ok (.ldiv, 1) := by decide +kernel
theorem dX6_isLongOfNanos_16 : decode cX6_isLongOfNanos 16 = .ok (.lcmp, 1) := by decide +kernel
theorem dX6_isLongOfNanos_17 : decode cX6_isLongOfNanos 17 = .ok (.ifCond .gt 7, 3) := by decide +kernel
theorem dX6_isLongOfNanos_20 : decode cX6_isLongOfNanos 20 = .ok (.iconst 1, 1) := by decide +kernel
theorem dX6_isLongOfNanos_21 : decode cX6_isLongOfNanos 21 = .ok (.goto 4, 3) := by decide +kernel
theorem dX6_isLongOfNanos_24 : decode cX6_isLongOfNanos 24 = .ok (.iconst 0, 1) := by decide +kernel
theorem dX6_isLongOfNanos_25 : decode cX6_isLongOfNanos 25 = .ok (.ireturn, 1) := by decide +kernel
theorem dX6_isLongOfNanos_26 : decode cX6_isLongOfNanos 26 = .ok (.lload_n 0, 1) := by decide +kernel
theorem dX6_isLongOfNanos_27 : decode cX6_isLongOfNanos 27 = .ok (.lconst 0, 1) := by decide +kernel
theorem dX6_isLongOfNanos_28 : decode cX6_isLongOfNanos 28 = .ok (.lcmp, 1) := by decide +kernel
theorem dX6_isLongOfNanos_29 : decode cX6_isLongOfNanos 29 = .ok (.ifCond .eq 17, 3) := by decide +kernel
theorem dX6_isLongOfNanos_32 : decode cX6_isLongOfNanos 32 = .ok (.lload_n 0, 1) := by decide +kernel
theorem dX6_isLongOfNanos_33 : decode cX6_isLongOfNanos 33 = .ok (.ldc2_w 235, 3) := by decide +kernel
theorem dX6_isLongOfNanos_36 : decode cX6_isLongOfNanos 36 = .ok (.lload_n 2, 1) := by decide +kernel
theorem dX6_isLongOfNanos_37 : decode cX6_isLongOfNanos 37 = .ok (.lsub, 1) := by decide +kernel
theorem dX6_isLongOfNanos_38 : decode cX6_isLongOfNanos 38 = .ok (.ldc2_w 148, 3) := by decide +kernel
theorem dX6_isLongOfNanos_41 : decode cX6_isLongOfNanos 41 = .ok (.ldiv, 1) := by decide +kernel
theorem dX6_isLongOfNanos_42 : decode cX6_isLongOfNanos 42 = .ok (.lcmp, 1) := by decide +kernel
theorem dX6_isLongOfNanos_43 : decode cX6_isLongOfNanos 43 = .ok (.ifCond .lt 7, 3) := by decide +kernel
theorem dX6_isLongOfNanos_46 : decode cX6_isLongOfNanos 46 = .ok (.iconst 1, 1) := by decide +kernel
theorem dX6_isLongOfNanos_47 : decode cX6_isLongOfNanos 47 = .ok (.goto 4, 3) := by decide +kernel
theorem dX6_isLongOfNanos_50 : decode cX6_isLongOfNanos 50 = .ok (.iconst 0, 1) := by decide +kernel
theorem dX6_isLongOfNanos_51 : decode cX6_isLongOfNanos 51 = .ok (.ireturn, 1) := by decide +kernel
