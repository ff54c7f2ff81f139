theorem dX6_span_92 : decode cX6_span 92 = .ok (.ireturn, 1) := by decide +kernel
theorem dX6_adjust_0 : decode cX6_adjust 0 = .ok (.aload_n 0, 1) := by decide +kernel
theorem dX6_adjust_1 : decode cX6_adjust 1 = .ok (.iload_n 1, 1) := by decide +kernel
theorem dX6_adjust_2 : decode cX6_adjust 2 = .ok (.invokevirtual 39, 3) := by decide +kernel
theorem dX6_adjust_5 : decode cX6_adjust 5 = .ok (.astore 4, 2) := by decide +kernel
theorem dX6_adjust_7 : decode cX6_adjust 7 = .ok (.iload_n 2, 1) := by decide +kernel
theorem dX6_adjust_8 : decode cX6_adjust 8 = .ok (.ifCond .lt 16, 3) := by decide +kernel
theorem dX6_adjust_11 : decode cX6_adjust 11 = .ok (.iload_n 2, 1) := by decide +kernel
theorem dX6_adjust_12 : decode cX6_adjust 12 = .ok (.iconst 5, 1) := by decide +kernel
theorem dX6_adjust_13 : decode cX6_adjust 13 = .ok (.if_icmp .gt 11, 3) := by decide +kernel
theorem dX6_adjust_16 : decode cX6_adjust 16 = .ok (.iload_n 3, 1) := by decide +kernel
theorem dX6_adjust_17 : decode cX6_adjust 17 = .ok (.i2l, 1) := by decide +kernel
theorem dX6_adjust_18 : decode cX6_adjust 18 = .ok (.invokestatic 169, 3) := by decide +kernel
theorem dX6_adjust_21 : decode cX6_adjust 21 = .ok (.ifCond .ne 13, 3) := by decide +kernel
theorem dX6_adjust_24 : decode cX6_adjust 24 = .ok (.new 49, 3) := by decide +kernel
theorem dX6_adjust_27 : decode cX6_adjust 27 = .ok (.dup, 1) := by decide +kernel
theorem dX6_adjust_28 : decode cX6_adjust 28 = .ok (.ldc 173, 2) := by decide +kernel
theorem dX6_adjust_30 : decode cX6_adjust 30 = .ok (.invokespecial 53, 3) := by decide +kernel
theorem dX6_adjust_33 : decode cX6_adjust 33 = .ok (.athrow, 1) := by decide +kernel
theorem dX6_adjust_34 : decode cX6_adjust 34 = .ok (.aload 4, 2) := by decide +kernel
theorem dX6_adjust_36 : decode cX6_adjust 36 = .ok (.aload 4, 2) := by decide +kernel
theorem dX6_adjust_38 : decode cX6_adjust 38 = .ok (.iload_n 2, 1) := by decide +kernel
theorem dX6_adjust_39 : decode cX6_adjust 39 = .ok (.iload_n 3, 1) := by decide +kernel
theorem dX6_adjust_40 : decode cX6_adjust 40 = .ok (.invokevirtual 175, 3) := by decide +kernel
theorem dX6_adjust_43 : decode cX6_adjust 43 = .ok (.invokevirtual 179, 3) := by decide +kernel
theorem dX6_adjust_46 : decode cX6_adjust 46 = .ok (.ifCond .ne 13, 3) := by decide +kernel
theorem dX6_adjust_49 : decode cX6_adjust 49 = .ok (.new 110, 3) := by decide +kernel
theorem dX6_adjust_52 : decode cX6_adjust 52 = .ok (.dup, 1) := by decide +kernel
theorem dX6_adjust_53 : decode cX6_adjust 53 = .ok (.ldc 112, 2) := by decide +kernel
theorem dX6_adjust_55 : decode cX6_adjust 55 = .ok (.invokespecial 114, 3) := by decide +kernel
theorem dX6_adjust_58 : decode cX6_adjust 58 = .ok (.athrow, 1) := by decide +kernel
theorem dX6_adjust_59 : decode cX6_adjust 59 = .ok (.return_, 1) := by decide +kernel
theorem dX6_copy_0 : decode cX6_copy 0 = .ok (.aload_n 0, 1) := by decide +kernel
theorem dX6_copy_1 : decode cX6_copy 1 = .ok (.iload_n 1, 1) := by decide +kernel
theorem dX6_copy_2 : decode cX6_copy 2 = .ok (.invokevirtual 39, 3) := by decide +kernel
theorem dX6_copy_5 : decode cX6_copy 5 = .ok (.astore_n 3, 1) := by decide +kernel
theorem dX6_copy_6 : decode cX6_copy 6 = .ok (.aload_n 0, 1) := by decide +kernel
theorem dX6_copy_7 : decode cX6_copy 7 = .ok (.iload_n 2, 1) := by decide +kernel
theorem dX6_copy_8 : decode cX6_copy 8 = .ok (.invokevirtual 39, 3) := by decide +kernel
theorem dX6_copy_11 : decode cX6_copy 11 = .ok (.astore 4, 2) := by decide +kernel
theorem dX6_copy_13 : decode cX6_copy 13 = .ok (.aload 4, 2) := by decide +kernel
theorem dX6_copy_15 : decode cX6_copy 15 = .ok (.aload_n 3, 1) := by decide +kernel
theorem dX6_copy_16 : decode cX6_copy 16 = .ok (.invokevirtual 182, 3) := by decide +kernel
theorem dX6_copy_19 : decode cX6_copy 19 = .ok (.istore 5, 2) := by decide +kernel
theorem dX6_copy_21 : decode cX6_copy 21 = .ok (.aload 4, 2) := by decide +kernel
theorem dX6_copy_23 : decode cX6_copy 23 = .ok (.aload_n 3, 1) := by decide +kernel
theorem dX6_copy_24 : decode cX6_copy 24 = .ok (.getfield 186, 3) := by decide +kernel
theorem dX6_copy_27 : decode cX6_copy 27 = .ok (.aload_n 3, 1) := by decide +kernel
theorem dX6_copy_28 : decode cX6_copy 28 = .ok (.getfield 189, 3) := by decide +kernel
theorem dX6_copy_31 : decode cX6_copy 31 = .ok (.aload_n 3, 1) := by decide +kernel
theorem dX6_copy_32 : decode cX6_copy 32 = .ok (.getfield 161, 3) := by decide +kernel
theorem dX6_copy_35 : decode cX6_copy 35 = .ok (.invokevirtual 56, 3) := by decide +kernel
theorem dX6_copy_38 : decode cX6_copy 38 = .ok (.aload 4, 2) := by decide +kernel
theorem dX6_copy_40 : decode cX6_copy 40 = .ok (.aload_n 3, 1) := by decide +kernel
theorem dX6_copy_41 : decode cX6_copy 41 = .ok (.getfield 115, 3) := by decide +kernel
theorem dX6_copy_44 : decode cX6_copy 44 = .ok (.invokevirtual 70, 3) := by decide +kernel
theorem dX6_copy_47 : decode cX6_copy 47 = .ok (.iload 5, 2) := by decide +kernel
theorem dX6_copy_49 : decode cX6_copy 49 = .ok (.ireturn, 1) := by decide +kernel
theorem dX6_zone_0 : decode cX6_zone 0 = .ok (.iload_n 1, 1) := by decide +kernel
theorem dX6_zone_1 : decode cX6_zone 1 = .ok (.invokestatic 192, 3) := by decide +kernel
theorem dX6_zone_4 : decode cX6_zone 4 = .ok (.ifCond .eq 10, 3) := by decide +kernel
theorem dX6_zone_7 : decode cX6_zone 7 = .ok (.iload_n 2, 1) := by decide +kernel
theorem dX6_zone_8 : decode cX6_zone 8 = .ok (.invokestatic 195, 3) := by decide +kernel
theorem dX6_zone_11 : decode cX6_zone 11 = .ok (.ifCond .ne 5, 3) := by decide +kernel
theorem dX6_zone_14 : decode cX6_zone 14 = .ok (.iconst 0, 1) := by decide +kernel
theorem dX6_zone_15 : decode cX6_zone 15 = .ok (.ireturn, 1) := by decide +kernel
theorem dX6_zone_16 : decode cX6_zone 16 = .ok (.aload_n 0, 1) := by decide +kernel
theorem dX6_zone_17 : decode cX6_zone 17 = .ok (.getfield 20, 3) := by decide +kernel
theorem dX6_zone_20 : decode cX6_zone 20 = .ok (.iload_n 1, 1) := by decide +kernel
theorem dX6_zone_21 : decode cX6_zone 21 = .ok (.aaload, 1) := by decide +kernel
theorem dX6_zone_22 : decode cX6_zone 22 = .ok (.iload_n 2, 1) := by decide +kernel
theorem dX6_zone_23 : decode cX6_zone 23 = .ok (.invokevirtual 198, 3) := by decide +kernel
theorem dX6_zone_26 : decode cX6_zone 26 = .ok (.iconst 1, 1) := by decide +kernel
theorem dX6_zone_27 : decode cX6_zone 27 = .ok (.ireturn, 1) := by decide +kernel
theorem dX6_change_0 : decode cX6_change 0 = .ok (.iload_n 1, 1) := by decide +kernel
theorem dX6_change_1 : decode cX6_change 1 = .ok (.invokestatic 192, 3) := by decide +kernel
theorem dX6_change_4 : decode cX6_change 4 = .ok (.ifCond .eq 18, 3) := by decide +kernel
theorem dX6_change_7 : decode cX6_change 7 = .ok (.iload 4, 2) := by decide +kernel
theorem dX6_change_9 : decode cX6_change 9 = .ok (.invokestatic 195, 3) := by decide +kernel
theorem dX6_change_12 : decode cX6_change 12 = .ok (.ifCond .eq 10, 3) := by decide +kernel
theorem dX6_change_15 : decode cX6_change 15 = .ok (.lload_n 2, 1) := by decide +kernel
theorem dX6_change_16 : decode cX6_change 16 = .ok (.invokestatic 202, 3) := by decide +kernel
theorem dX6_change_19 : decode cX6_change 19 = .ok (.ifCond .ne 5, 3) := by decide +kernel
theorem dX6_change_22 : decode cX6_change 22 = .ok (.iconst 0, 1) := by decide +kernel
theorem dX6_change_23 : decode cX6_change 23 = .ok (.ireturn, 1) := by decide +kernel
theorem dX6_change_24 : decode cX6_change 24 = .ok (.aload_n 0, 1) := by decide +kernel
theorem dX6_change_25 : decode cX6_change 25 = .ok (.getfield 20, 3) := by decide +kernel
theorem dX6_change_28 : decode cX6_change 28 = .ok (.iload_n 1, 1) := by decide +kernel
theorem dX6_change_29 : decode cX6_change 29 = .ok (.aaload, 1) := by decide +kernel
theorem dX6_change_30 : decode cX6_change 30 = .ok (.lload_n 2, 1) := by decide +kernel
theorem dX6_change_31 : decode cX6_change 31 = .ok (.iload 4, 2) := by decide +kernel
theorem dX6_change_33 : decode cX6_change 33 = .ok (.invokevirtual 205, 3) := by decide +kernel
theorem dX6_change_36 : decode cX6_change 36 = .ok (.ireturn, 1) := by decide +kernel
theorem dX6_rule_0 : decode cX6_rule 0 = .ok (.iload_n 1, 1) := by decide +kernel
theorem dX6_rule_1 : decode cX6_rule 1 = .ok (.invokestatic 192, 3) := by decide +kernel
theorem dX6_rule_4 : decode cX6_rule 4 = .ok (.ifCond .eq 28, 3) := by decide +kernel
theorem dX6_rule_7 : decode cX6_rule 7 = .ok (.iload 6, 2) := by decide +kernel
theorem dX6_rule_9 : decode cX6_rule 9 = .ok (.invokestatic 195, 3) := by decide +kernel
theorem dX6_rule_12 : decode cX6_rule 12 = .ok (.ifCond .eq 20, 3) := by decide +kernel
theorem dX6_rule_15 : decode cX6_rule 15 = .ok (.iload_n 2, 1) := by decide +kernel
theorem dX6_rule_16 : decode cX6_rule 16 = .ok (.i2l, 1) := by decide +kernel
theorem dX6_rule_17 : decode cX6_rule 17 = .ok (.invokestatic 209, 3) := by decide +kernel
theorem dX6_rule_20 : decode cX6_rule 20 = .ok (.ifCond .eq 12, 3) := by decide +kernel
theorem dX6_rule_23 : decode cX6_rule 23 = .ok (.iload 4, 2) := by decide +kernel
theorem dX6_rule_25 : decode cX6_rule 25 = .ok (.i2l, 1) := by decide +kernel
theorem dX6_rule_26 : decode cX6_rule 26 = .ok (.invokestatic 169, 3) := by decide +kernel
theorem dX6_rule_29 : decode cX6_rule 29 = .ok (.ifCond .ne 5, 3) := by decide +kernel
theorem dX6_rule_32 : decode cX6_rule 32 = .ok (.iconst 0, 1) := by decide +kernel
theorem dX6_rule_33 : decode cX6_rule 33 = .ok (.ireturn, 1) := by decide +kernel
theorem dX6_rule_34 : decode cX6_rule 34 = .ok (.iload_n 3, 1) := by decide +kernel
theorem dX6_rule_35 : decode cX6_rule 35 = .ok (.iconst 1, 1) := by decide +kernel
theorem dX6_rule_36 : decode cX6_rule 36 = .ok (.if_icmp .lt 9, 3) := by decide +kernel
theorem dX6_rule_39 : decode cX6_rule 39 = .ok (.iload_n 3, 1) := by decide +kernel
theorem dX6_rule_40 : decode cX6_rule 40 = .ok (.bipush 28, 2) := by decide +kernel
theorem dX6_rule_42 : decode cX6_rule 42 = .ok (.if_icmp .le 8, 3) := by decide +kernel
theorem dX6_rule_45 : decode cX6_rule 45 = .ok (.iload_n 3, 1) := by decide +kernel
theorem dX6_rule_46 : decode cX6_rule 46 = .ok (.iconst (-1), 1) := by decide +kernel
theorem dX6_rule_47 : decode cX6_rule 47 = .ok (.if_icmp .ne 18, 3) := by decide +kernel
theorem dX6_rule_50 : decode cX6_rule 50 = .ok (.iload 5, 2) := by decide +kernel
theorem dX6_rule_52 : decode cX6_rule 52 = .ok (.ifCond .lt 13, 3) := by decide +kernel
theorem dX6_rule_55 : decode cX6_rule 55 = .ok (.iload 5, 2) := by decide +kernel
theorem dX6_rule_57 : decode cX6_rule 57 = .ok (.i2l, 1) := by decide +kernel
theorem dX6_rule_58 : decode cX6_rule 58 = .ok (.ldc2_w 214, 3) := by decide +kernel
theorem dX6_rule_61 : decode cX6_rule 61 = .ok (.lcmp, 1) := by decide +kernel
theorem dX6_rule_62 : decode cX6_rule 62 = .ok (.ifCond .le 5, 3) := by decide +kernel
theorem dX6_rule_65 : decode cX6_rule 65 = .ok (.iconst 0, 1) := by decide +kernel
theorem dX6_rule_66 : decode cX6_rule 66 = .ok (.ireturn, 1) := by decide +kernel
theorem dX6_rule_67 : decode cX6_rule 67 = .ok (.aload_n 0, 1) := by decide +kernel
theorem dX6_rule_68 : decode cX6_rule 68 = .ok (.getfield 20, 3) := by decide +kernel
theorem dX6_rule_71 : decode cX6_rule 71 = .ok (.iload_n 1, 1) := by decide +kernel
theorem dX6_rule_72 : decode cX6_rule 72 = .ok (.aaload, 1) := by decide +kernel
theorem dX6_rule_73 : decode cX6_rule 73 = .ok (.iload_n 2, 1) := by decide +kernel
theorem dX6_rule_74 : decode cX6_rule 74 = .ok (.iload_n 3, 1) := by decide +kernel
theorem dX6_rule_75 : decode cX6_rule 75 = .ok (.iload 4, 2) := by decide +kernel
theorem dX6_rule_77 : decode cX6_rule 77 = .ok (.iload 5, 2) := by decide +kernel
theorem dX6_rule_79 : decode cX6_rule 79 = .ok (.iload 6, 2) := by decide +kernel
theorem dX6_rule_81 : decode cX6_rule 81 = .ok (.invokevirtual 216, 3) := by decide +kernel
theorem dX6_rule_84 : decode cX6_rule 84 = .ok (.ireturn, 1) := by decide +kernel
theorem dX6_offset_0 : decode cX6_offset 0 = .ok (.iload_n 1, 1) := by decide +kernel
theorem dX6_offset_1 : decode cX6_offset 1 = .ok (.invokestatic 192, 3) := by decide +kernel
theorem dX6_offset_4 : decode cX6_offset 4 = .ok (.ifCond .eq 10, 3) := by decide +kernel
theorem dX6_offset_7 : decode cX6_offset 7 = .ok (.lload_n 2, 1) := by decide +kernel
theorem dX6_offset_8 : decode cX6_offset 8 = .ok (.invokestatic 202, 3) := by decide +kernel
theorem dX6_offset_11 : decode cX6_offset 11 = .ok (.ifCond .ne 13, 3) := by decide +kernel
theorem dX6_offset_14 : decode cX6_offset 14 = .ok (.new 49, 3) := by decide +kernel
theorem dX6_offset_17 : decode cX6_offset 17 = .ok (.dup, 1) := by decide +kernel
theorem dX6_offset_18 : decode cX6_offset 18 = .ok (.ldc 220, 2) := by decide +kernel
theorem dX6_offset_20 : decode cX6_offset 20 = .ok (.invokespecial 53, 3) := by decide +kernel
theorem dX6_offset_23 : decode cX6_offset 23 = .ok (.athrow, 1) := by decide +kernel
theorem dX6_offset_24 : decode cX6_offset 24 = .ok (.aload_n 0, 1) := by decide +kernel
theorem dX6_offset_25 : decode cX6_offset 25 = .ok (.getfield 20, 3) := by decide +kernel
theorem dX6_offset_28 : decode cX6_offset 28 = .ok (.iload_n 1, 1) := by decide +kernel
theorem dX6_offset_29 : decode cX6_offset 29 = .ok (.aaload, 1) := by decide +kernel
theorem dX6_offset_30 : decode cX6_offset 30 = .ok (.lload_n 2, 1) := by decide +kernel
theorem dX6_offset_31 : decode cX6_offset 31 = .ok (.invokevirtual 222, 3) := by decide +kernel
theorem dX6_offset_34 : decode cX6_offset 34 = .ok (.ireturn, 1) := by decide +kernel
theorem dX6_moment_0 : decode cX6_moment 0 = .ok (.aload_n 0, 1) := by decide +kernel
theorem dX6_moment_1 : decode cX6_moment 1 = .ok (.iload_n 1, 1) := by decide +kernel
theorem dX6_moment_2 : decode cX6_moment 2 = .ok (.invokevirtual 39, 3) := by decide +kernel
theorem dX6_moment_5 : decode cX6_moment 5 = .ok (.astore 4, 2) := by decide +kernel
theorem dX6_moment_7 : decode cX6_moment 7 = .ok (.iload_n 2, 1) := by decide +kernel
theorem dX6_moment_8 : decode cX6_moment 8 = .ok (.invokestatic 192, 3) := by decide +kernel
theorem dX6_moment_11 : decode cX6_moment 11 = .ok (.ifCond .ne 13, 3) := by decide +kernel
theorem dX6_moment_14 : decode cX6_moment 14 = .ok (.new 49, 3) := by decide +kernel
theorem dX6_moment_17 : decode cX6_moment 17 = .ok (.dup, 1) := by decide +kernel
theorem dX6_moment_18 : decode cX6_moment 18 = .ok (.ldc 226, 2) := by decide +kernel
theorem dX6_moment_20 : decode cX6_moment 20 = .ok (.invokespecial 53, 3) := by decide +kernel
theorem dX6_moment_23 : decode cX6_moment 23 = .ok (.athrow, 1) := by decide +kernel
theorem dX6_moment_24 : decode cX6_moment 24 = .ok (.aload 4, 2) := by decide +kernel
theorem dX6_moment_26 : decode cX6_moment 26 = .ok (.invokevirtual 228, 3) := by decide +kernel
theorem dX6_moment_29 : decode cX6_moment 29 = .ok (.lstore 5, 2) := by decide +kernel
theorem dX6_moment_31 : decode cX6_moment 31 = .ok (.aload_n 0, 1) := by decide +kernel
theorem dX6_moment_32 : decode cX6_moment 32 = .ok (.getfield 20, 3) := by decide +kernel
theorem dX6_moment_35 : decode cX6_moment 35 = .ok (.iload_n 2, 1) := by decide +kernel
theorem dX6_moment_36 : decode cX6_moment 36 = .ok (.aaload, 1) := by decide +kernel
theorem dX6_moment_37 : decode cX6_moment 37 = .ok (.lload 5, 2) := by decide +kernel
theorem dX6_moment_39 : decode cX6_moment 39 = .ok (.iload_n 3, 1) := by decide +kernel
theorem dX6_moment_40 : decode cX6_moment 40 = .ok (.invokevirtual 231, 3) := by decide +kernel
theorem dX6_moment_43 : decode cX6_moment 43 = .ok (.lstore 7, 2) := by decide +kernel
theorem dX6_moment_45 : decode cX6_moment 45 = .ok (.lload 7, 2) := by decide +kernel
theorem dX6_moment_47 : decode cX6_moment 47 = .ok (.ldc2_w 235, 3) := by decide +kernel
theorem dX6_moment_50 : decode cX6_moment 50 = .ok (.lcmp, 1) := by decide +kernel
theorem dX6_moment_51 : decode cX6_moment 51 = .ok (.ifCond .ne 21, 3) := by decide +kernel
theorem dX6_moment_54 : decode cX6_moment 54 = .ok (.lload 5, 2) := by decide +kernel
theorem dX6_moment_56 : decode cX6_moment 56 = .ok (.aload_n 0, 1) := by decide +kernel
theorem dX6_moment_57 : decode cX6_moment 57 = .ok (.getfield 20, 3) := by decide +kernel
theorem dX6_moment_60 : decode cX6_moment 60 = .ok (.iload_n 2, 1) := by decide +kernel
theorem dX6_moment_61 : decode cX6_moment 61 = .ok (.aaload, 1) := by decide +kernel
theorem dX6_moment_62 : decode cX6_moment 62 = .ok (.lload 5, 2) := by decide +kernel
theorem dX6_moment_64 : decode cX6_moment 64 = .ok (.invokevirtual 237, 3) := by decide +kernel
theorem dX6_moment_67 : decode cX6_moment 67 = .ok (.i2l, 1) := by decide +kernel
theorem dX6_moment_68 : decode cX6_moment 68 = .ok (.lsub, 1) := by decide +kernel
theorem dX6_moment_69 : decode cX6_moment 69 = .ok (.goto 5, 3) := by decide +kernel
theorem dX6_moment_72 : decode cX6_moment 72 = .ok (.lload 7, 2) := by decide +kernel
theorem dX6_moment_74 : decode cX6_moment 74 = .ok (.lreturn, 1) := by decide +kernel
theorem dX6_show_0 : decode cX6_show 0 = .ok (.aload_n 0, 1) := by decide +kernel
theorem dX6_show_1 : decode cX6_show 1 = .ok (.iload_n 1, 1) := by decide +kernel
theorem dX6_show_2 : decode cX6_show 2 = .ok (.invokevirtual 39, 3) := by decide +kernel
theorem dX6_show_5 : decode cX6_show 5 = .ok (.astore 5, 2) := by decide +kernel
theorem dX6_show_7 : decode cX6_show 7 = .ok (.iload_n 2, 1) := by decide +kernel
theorem dX6_show_8 : decode cX6_show 8 = .ok (.invokestatic 192, 3) := by decide +kernel
theorem dX6_show_11 : decode cX6_show 11 = .ok (.ifCond .ne 13, 3) := by decide +kernel
theorem dX6_show_14 : decode cX6_show 14 = .ok (.new 49, 3) := by decide +kernel
theorem dX6_show_17 : decode cX6_show 17 = .ok (.dup, 1) := by decide +kernel
theorem dX6_show_18 : decode cX6_show 18 = .ok (.ldc 226, 2) := by decide +kernel
theorem dX6_show_20 : decode cX6_show 20 = .ok (.invokespecial 53, 3) := by decide +kernel
theorem dX6_show_23 : decode cX6_show 23 = .ok (.athrow, 1) := by decide +kernel
theorem dX6_show_24 : decode cX6_show 24 = .ok (.lload_n 3, 1) := by decide +kernel
theorem dX6_show_25 : decode cX6_show 25 = .ok (.invokestatic 202, 3) := by decide +kernel
theorem dX6_show_28 : decode cX6_show 28 = .ok (.ifCond .ne 13, 3) := by decide +kernel
theorem dX6_show_31 : decode cX6_show 31 = .ok (.new 110, 3) := by decide +kernel
theorem dX6_show_34 : decode cX6_show 34 = .ok (.dup, 1) := by decide +kernel
theorem dX6_show_35 : decode cX6_show 35 = .ok (.ldc 240, 2) := by decide +kernel
theorem dX6_show_37 : decode cX6_show 37 = .ok (.invokespecial 114, 3) := by decide +kernel
theorem dX6_show_40 : decode cX6_show 40 = .ok (.athrow, 1) := by decide +kernel
theorem dX6_show_41 : decode cX6_show 41 = .ok (.lload_n 3, 1) := by decide +kernel
theorem dX6_show_42 : decode cX6_show 42 = .ok (.aload_n 0, 1) := by decide +kernel
theorem dX6_show_43 : decode cX6_show 43 = .ok (.getfield 20, 3) := by decide +kernel
theorem dX6_show_46 : decode cX6_show 46 = .ok (.iload_n 2, 1) := by decide +kernel
theorem dX6_show_47 : decode cX6_show 47 = .ok (.aaload, 1) := by decide +kernel
theorem dX6_show_48 : decode cX6_show 48 = .ok (.lload_n 3, 1) := by decide +kernel
theorem dX6_show_49 : decode cX6_show 49 = .ok (.invokevirtual 222, 3) := by decide +kernel
theorem dX6_show_52 : decode cX6_show 52 = .ok (.i2l, 1) := by decide +kernel
theorem dX6_show_53 : decode cX6_show 53 = .ok (.ladd, 1) := by decide +kernel
theorem dX6_show_54 : decode cX6_show 54 = .ok (.lstore 6, 2) := by decide +kernel
theorem dX6_show_56 : decode cX6_show 56 = .ok (.aload 5, 2) := by decide +kernel
theorem dX6_show_58 : decode cX6_show 58 = .ok (.lload 6, 2) := by decide +kernel
theorem dX6_show_60 : decode cX6_show 60 = .ok (.ldc2_w 214, 3) := by decide +kernel
theorem dX6_show_63 : decode cX6_show 63 = .ok (.invokestatic 242, 3) := by decide +kernel
theorem dX6_show_66 : decode cX6_show 66 = .ok (.invokevirtual 179, 3) := by decide +kernel
theorem dX6_show_69 : decode cX6_show 69 = .ok (.ifCond .ne 13, 3) := by decide +kernel
theorem dX6_show_72 : decode cX6_show 72 = .ok (.new 110, 3) := by decide +kernel
theorem dX6_show_75 : decode cX6_show 75 = .ok (.dup, 1) := by decide +kernel
theorem dX6_show_76 : decode cX6_show 76 = .ok (.ldc 112, 2) := by decide +kernel
theorem dX6_show_78 : decode cX6_show 78 = .ok (.invokespecial 114, 3) := by decide +kernel
theorem dX6_show_81 : decode cX6_show 81 = .ok (.athrow, 1) := by decide +kernel
theorem dX6_show_82 : decode cX6_show 82 = .ok (.aload 5, 2) := by decide +kernel
theorem dX6_show_84 : decode cX6_show 84 = .ok (.lload 6, 2) := by decide +kernel
theorem dX6_show_86 : decode cX6_show 86 = .ok (.ldc2_w 214, 3) := by decide +kernel
theorem dX6_show_89 : decode cX6_show 89 = .ok (.invokestatic 247, 3) := by decide +kernel
theorem dX6_show_92 : decode cX6_show 92 = .ok (.ldc2_w 250, 3) := by decide +kernel
theorem dX6_show_95 : decode cX6_show 95 = .ok (.lmul, 1) := by decide +kernel
theorem dX6_show_96 : decode cX6_show 96 = .ok (.invokevirtual 70, 3) := by decide +kernel
theorem dX6_show_99 : decode cX6_show 99 = .ok (.return_, 1) := by decide +kernel
theorem dX6_julian_0 : decode cX6_julian 0 = .ok (.aload_n 0, 1) := by decide +kernel
theorem dX6_julian_1 : decode cX6_julian 1 = .ok (.iload_n 1, 1) := by decide +kernel
theorem dX6_julian_2 : decode cX6_julian 2 = .ok (.invokevirtual 39, 3) := by decide +kernel
theorem dX6_julian_5 : decode cX6_julian 5 = .ok (.astore_n 2, 1) := by decide +kernel
theorem dX6_julian_6 : decode cX6_julian 6 = .ok (.aload_n 2, 1) := by decide +kernel
theorem dX6_julian_7 : decode cX6_julian 7 = .ok (.invokevirtual 154, 3) := by decide +kernel
theorem dX6_julian_10 : decode cX6_julian 10 = .ok (.l2d, 1) := by decide +kernel
theorem dX6_julian_11 : decode cX6_julian 11 = .ok (.ldc2_w 252, 3) := by decide +kernel
theorem dX6_julian_14 : decode cX6_julian 14 = .ok (.dadd, 1) := by decide +kernel
theorem dX6_julian_15 : decode cX6_julian 15 = .ok (.aload_n 2, 1) := by decide +kernel
theorem dX6_julian_16 : decode cX6_julian 16 = .ok (.getfield 115, 3) := by decide +kernel
theorem dX6_julian_19 : decode cX6_julian 19 = .ok (.l2d, 1) := by decide +kernel
theorem dX6_julian_20 : decode cX6_julian 20 = .ok (.ldc2_w 254, 3) := by decide +kernel
theorem dX6_julian_23 : decode cX6_julian 23 = .ok (.ddiv, 1) := by decide +kernel
theorem dX6_julian_24 : decode cX6_julian 24 = .ok (.dadd, 1) := by decide +kernel
theorem dX6_julian_25 : decode cX6_julian 25 = .ok (.dreturn, 1) := by decide +kernel
theorem dX6_type_0 : decode cX6_type 0 = .ok (.aload_n 0, 1) := by decide +kernel
theorem dX6_type_1 : decode cX6_type 1 = .ok (.getfield 28, 3) := by decide +kernel
theorem dX6_type_4 : decode cX6_type 4 = .ok (.iload_n 1, 1) := by decide +kernel
theorem dX6_type_5 : decode cX6_type 5 = .ok (.invokevirtual 256, 3) := by decide +kernel
theorem dX6_type_8 : decode cX6_type 8 = .ok (.ireturn, 1) := by decide +kernel
theorem dX6_parse_0 : decode cX6_parse 0 = .ok (.aload_n 0, 1) := by decide +kernel
theorem dX6_parse_1 : decode cX6_parse 1 = .ok (.iload_n 1, 1) := by decide +kernel
theorem dX6_parse_2 : decode cX6_parse 2 = .ok (.invokevirtual 39, 3) := by decide +kernel
theorem dX6_parse_5 : decode cX6_parse 5 = .ok (.astore_n 2, 1) := by decide +kernel
theorem dX6_parse_6 : decode cX6_parse 6 = .ok (.aload_n 0, 1) := by decide +kernel
theorem dX6_parse_7 : decode cX6_parse 7 = .ok (.getfield 28, 3) := by decide +kernel
theorem dX6_parse_10 : decode cX6_parse 10 = .ok (.aload_n 2, 1) := by decide +kernel
theorem dX6_parse_11 : decode cX6_parse 11 = .ok (.invokevirtual 260, 3) := by decide +kernel
theorem dX6_parse_14 : decode cX6_parse 14 = .ok (.istore_n 3, 1) := by decide +kernel
theorem dX6_parse_15 : decode cX6_parse 15 = .ok (.aload_n 0, 1) := by decide +kernel
theorem dX6_parse_16 : decode cX6_parse 16 = .ok (.getfield 28, 3) := by decide +kernel
theorem dX6_parse_19 : decode cX6_parse 19 = .ok (.invokevirtual 264, 3) := by decide +kernel
theorem dX6_parse_22 : decode cX6_parse 22 = .ok (.iload_n 3, 1) := by decide +kernel
theorem dX6_parse_23 : decode cX6_parse 23 = .ok (.ifCond .ne 14, 3) := by decide +kernel
theorem dX6_parse_26 : decode cX6_parse 26 = .ok (.new 49, 3) := by decide +kernel
theorem dX6_parse_29 : decode cX6_parse 29 = .ok (.dup, 1) := by decide +kernel
theorem dX6_parse_30 : decode cX6_parse 30 = .ok (.ldc_w 267, 3) := by decide +kernel
theorem dX6_parse_33 : decode cX6_parse 33 = .ok (.invokespecial 53, 3) := by decide +kernel
theorem dX6_parse_36 : decode cX6_parse 36 = .ok (.athrow, 1) := by decide +kernel
theorem dX6_parse_37 : decode cX6_parse 37 = .ok (.return_, 1) := by decide +kernel
theorem dX6_text_0 : decode cX6_text 0 = .ok (.aload_n 0, 1) := by decide +kernel
theorem dX6_text_1 : decode cX6_text 1 = .ok (.iload_n 1, 1) := by decide +kernel
theorem dX6_text_2 : decode cX6_text 2 = .ok (.invokevirtual 39, 3) := by decide +kernel
theorem dX6_text_5 : decode cX6_text 5 = .ok (.astore_n 3, 1) := by decide +kernel
theorem dX6_text_6 : decode cX6_text 6 = .ok (.iload_n 2, 1) := by decide +kernel
theorem dX6_text_7 : decode cX6_text 7 = .ok (.ifCond .ge 14, 3) := by decide +kernel
theorem dX6_text_10 : decode cX6_text 10 = .ok (.new 49, 3) := by decide +kernel
theorem dX6_text_13 : decode cX6_text 13 = .ok (.dup, 1) := by decide +kernel
theorem dX6_text_14 : decode cX6_text 14 = .ok (.ldc_w 269, 3) := by decide +kernel
theorem dX6_text_17 : decode cX6_text 17 = .ok (.invokespecial 53, 3) := by decide +kernel
theorem dX6_text_20 : decode cX6_text 20 = .ok (.athrow, 1) := by decide +kernel
theorem dX6_text_21 : decode cX6_text 21 = .ok (.aload_n 0, 1) := by decide +kernel
theorem dX6_text_22 : decode cX6_text 22 = .ok (.getfield 35, 3) := by decide +kernel
theorem dX6_text_25 : decode cX6_text 25 = .ok (.aload_n 3, 1) := by decide +kernel
theorem dX6_text_26 : decode cX6_text 26 = .ok (.invokevirtual 271, 3) := by decide +kernel
