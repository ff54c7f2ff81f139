theorem dL_date_0 : decode cL_date 0 = .ok (.aload_n 0, 1) := by decide +kernel
theorem dL_date_1 : decode cL_date 1 = .ok (.iload_n 1, 1) := by decide +kernel
theorem dL_date_2 : decode cL_date 2 = .ok (.iload_n 2, 1) := by decide +kernel
theorem dL_date_3 : decode cL_date 3 = .ok (.iload_n 3, 1) := by decide +kernel
theorem dL_date_4 : decode cL_date 4 = .ok (.iload 4, 2) := by decide +kernel
theorem dL_date_6 : decode cL_date 6 = .ok (.invokevirtual 7, 3) := by decide +kernel
theorem dL_date_9 : decode cL_date 9 = .ok (.goto 11, 3) := by decide +kernel
theorem dL_date_12 : decode cL_date 12 = .ok (.astore 5, 2) := by decide +kernel
theorem dL_date_14 : decode cL_date 14 = .ok (.iconst 1, 1) := by decide +kernel
theorem dL_date_15 : decode cL_date 15 = .ok (.ireturn, 1) := by decide +kernel
theorem dL_date_16 : decode cL_date 16 = .ok (.astore 5, 2) := by decide +kernel
theorem dL_date_18 : decode cL_date 18 = .ok (.iconst 2, 1) := by decide +kernel
theorem dL_date_19 : decode cL_date 19 = .ok (.ireturn, 1) := by decide +kernel
theorem dL_date_20 : decode cL_date 20 = .ok (.iconst 0, 1) := by decide +kernel
theorem dL_date_21 : decode cL_date 21 = .ok (.ireturn, 1) := by decide +kernel
theorem dL_time_0 : decode cL_time 0 = .ok (.aload_n 0, 1) := by decide +kernel
theorem dL_time_1 : decode cL_time 1 = .ok (.iload_n 1, 1) := by decide +kernel
theorem dL_time_2 : decode cL_time 2 = .ok (.iload_n 2, 1) := by decide +kernel
theorem dL_time_3 : decode cL_time 3 = .ok (.iload_n 3, 1) := by decide +kernel
theorem dL_time_4 : decode cL_time 4 = .ok (.iload 4, 2) := by decide +kernel
theorem dL_time_6 : decode cL_time 6 = .ok (.iload 5, 2) := by decide +kernel
theorem dL_time_8 : decode cL_time 8 = .ok (.invokevirtual 17, 3) := by decide +kernel
theorem dL_time_11 : decode cL_time 11 = .ok (.goto 11, 3) := by decide +kernel
theorem dL_time_14 : decode cL_time 14 = .ok (.astore 6, 2) := by decide +kernel
theorem dL_time_16 : decode cL_time 16 = .ok (.iconst 1, 1) := by decide +kernel
theorem dL_time_17 : decode cL_time 17 = .ok (.ireturn, 1) := by decide +kernel
theorem dL_time_18 : decode cL_time 18 = .ok (.astore 6, 2) := by decide +kernel
theorem dL_time_20 : decode cL_time 20 = .ok (.iconst 2, 1) := by decide +kernel
theorem dL_time_21 : decode cL_time 21 = .ok (.ireturn, 1) := by decide +kernel
theorem dL_time_22 : decode cL_time 22 = .ok (.iconst 0, 1) := by decide +kernel
theorem dL_time_23 : decode cL_time 23 = .ok (.ireturn, 1) := by decide +kernel
theorem dL_get_0 : decode cL_get 0 = .ok (.aload_n 3, 1) := by decide +kernel
theorem dL_get_1 : decode cL_get 1 = .ok (.iconst 0, 1) := by decide +kernel
theorem dL_get_2 : decode cL_get 2 = .ok (.aload_n 0, 1) := by decide +kernel
theorem dL_get_3 : decode cL_get 3 = .ok (.iload_n 1, 1) := by decide +kernel
theorem dL_get_4 : decode cL_get 4 = .ok (.iload_n 2, 1) := by decide +kernel
theorem dL_get_5 : decode cL_get 5 = .ok (.invokevirtual 21, 3) := by decide +kernel
theorem dL_get_8 : decode cL_get 8 = .ok (.lastore, 1) := by decide +kernel
theorem dL_get_9 : decode cL_get 9 = .ok (.goto 11, 3) := by decide +kernel
theorem dL_get_12 : decode cL_get 12 = .ok (.astore 4, 2) := by decide +kernel
theorem dL_get_14 : decode cL_get 14 = .ok (.iconst 1, 1) := by decide +kernel
theorem dL_get_15 : decode cL_get 15 = .ok (.ireturn, 1) := by decide +kernel
theorem dL_get_16 : decode cL_get 16 = .ok (.astore 4, 2) := by decide +kernel
theorem dL_get_18 : decode cL_get 18 = .ok (.iconst 2, 1) := by decide +kernel
theorem dL_get_19 : decode cL_get 19 = .ok (.ireturn, 1) := by decide +kernel
theorem dL_get_20 : decode cL_get 20 = .ok (.iconst 0, 1) := by decide +kernel
theorem dL_get_21 : decode cL_get 21 = .ok (.ireturn, 1) := by decide +kernel
theorem dL_with_0 : decode cL_with 0 = .ok (.aload_n 0, 1) := by decide +kernel
theorem dL_with_1 : decode cL_with 1 = .ok (.iload_n 1, 1) := by decide +kernel
theorem dL_with_2 : decode cL_with 2 = .ok (.iload_n 2, 1) := by decide +kernel
theorem dL_with_3 : decode cL_with 3 = .ok (.lload_n 3, 1) := by decide +kernel
theorem dL_with_4 : decode cL_with 4 = .ok (.invokevirtual 27, 3) := by decide +kernel
theorem dL_with_7 : decode cL_with 7 = .ok (.goto 15, 3) := by decide +kernel
theorem dL_with_10 : decode cL_with 10 = .ok (.astore 5, 2) := by decide +kernel
theorem dL_with_12 : decode cL_with 12 = .ok (.iconst 1, 1) := by decide +kernel
theorem dL_with_13 : decode cL_with 13 = .ok (.ireturn, 1) := by decide +kernel
theorem dL_with_14 : decode cL_with 14 = .ok (.astore 5, 2) := by decide +kernel
theorem dL_with_16 : decode cL_with 16 = .ok (.iconst 2, 1) := by decide +kernel
theorem dL_with_17 : decode cL_with 17 = .ok (.ireturn, 1) := by decide +kernel
theorem dL_with_18 : decode cL_with 18 = .ok (.astore 5, 2) := by decide +kernel
theorem dL_with_20 : decode cL_with 20 = .ok (.iconst 3, 1) := by decide +kernel
theorem dL_with_21 : decode cL_with 21 = .ok (.ireturn, 1) := by decide +kernel
theorem dL_with_22 : decode cL_with 22 = .ok (.iconst 0, 1) := by decide +kernel
theorem dL_with_23 : decode cL_with 23 = .ok (.ireturn, 1) := by decide +kernel
theorem dL_plus_0 : decode cL_plus 0 = .ok (.aload_n 0, 1) := by decide +kernel
theorem dL_plus_1 : decode cL_plus 1 = .ok (.iload_n 1, 1) := by decide +kernel
theorem dL_plus_2 : decode cL_plus 2 = .ok (.lload_n 2, 1) := by decide +kernel
theorem dL_plus_3 : decode cL_plus 3 = .ok (.iload 4, 2) := by decide +kernel
theorem dL_plus_5 : decode cL_plus 5 = .ok (.invokevirtual 31, 3) := by decide +kernel
theorem dL_plus_8 : decode cL_plus 8 = .ok (.goto 15, 3) := by decide +kernel
theorem dL_plus_11 : decode cL_plus 11 = .ok (.astore 5, 2) := by decide +kernel
theorem dL_plus_13 : decode cL_plus 13 = .ok (.iconst 1, 1) := by decide +kernel
theorem dL_plus_14 : decode cL_plus 14 = .ok (.ireturn, 1) := by decide +kernel
theorem dL_plus_15 : decode cL_plus 15 = .ok (.astore 5, 2) := by decide +kernel
theorem dL_plus_17 : decode cL_plus 17 = .ok (.iconst 2, 1) := by decide +kernel
theorem dL_plus_18 : decode cL_plus 18 = .ok (.ireturn, 1) := by decide +kernel
theorem dL_plus_19 : decode cL_plus 19 = .ok (.astore 5, 2) := by decide +kernel
theorem dL_plus_21 : decode cL_plus 21 = .ok (.iconst 3, 1) := by decide +kernel
theorem dL_plus_22 : decode cL_plus 22 = .ok (.ireturn, 1) := by decide +kernel
theorem dL_plus_23 : decode cL_plus 23 = .ok (.iconst 0, 1) := by decide +kernel
theorem dL_plus_24 : decode cL_plus 24 = .ok (.ireturn, 1) := by decide +kernel
theorem dL_until_0 : decode cL_until 0 = .ok (.aload 4, 2) := by decide +kernel
theorem dL_until_2 : decode cL_until 2 = .ok (.iconst 0, 1) := by decide +kernel
theorem dL_until_3 : decode cL_until 3 = .ok (.aload_n 0, 1) := by decide +kernel
theorem dL_until_4 : decode cL_until 4 = .ok (.iload_n 1, 1) := by decide +kernel
theorem dL_until_5 : decode cL_until 5 = .ok (.iload_n 2, 1) := by decide +kernel
theorem dL_until_6 : decode cL_until 6 = .ok (.iload_n 3, 1) := by decide +kernel
theorem dL_until_7 : decode cL_until 7 = .ok (.invokevirtual 37, 3) := by decide +kernel
theorem dL_until_10 : decode cL_until 10 = .ok (.lastore, 1) := by decide +kernel
theorem dL_until_11 : decode cL_until 11 = .ok (.goto 15, 3) := by decide +kernel
theorem dL_until_14 : decode cL_until 14 = .ok (.astore 5, 2) := by decide +kernel
theorem dL_until_16 : decode cL_until 16 = .ok (.iconst 1, 1) := by decide +kernel
theorem dL_until_17 : decode cL_until 17 = .ok (.ireturn, 1) := by decide +kernel
theorem dL_until_18 : decode cL_until 18 = .ok (.astore 5, 2) := by decide +kernel
theorem dL_until_20 : decode cL_until 20 = .ok (.iconst 2, 1) := by decide +kernel
theorem dL_until_21 : decode cL_until 21 = .ok (.ireturn, 1) := by decide +kernel
theorem dL_until_22 : decode cL_until 22 = .ok (.astore 5, 2) := by decide +kernel
theorem dL_until_24 : decode cL_until 24 = .ok (.iconst 3, 1) := by decide +kernel
theorem dL_until_25 : decode cL_until 25 = .ok (.ireturn, 1) := by decide +kernel
theorem dL_until_26 : decode cL_until 26 = .ok (.iconst 0, 1) := by decide +kernel
theorem dL_until_27 : decode cL_until 27 = .ok (.ireturn, 1) := by decide +kernel
theorem dL_span_0 : decode cL_span 0 = .ok (.aload 4, 2) := by decide +kernel
theorem dL_span_2 : decode cL_span 2 = .ok (.iconst 0, 1) := by decide +kernel
theorem dL_span_3 : decode cL_span 3 = .ok (.aload_n 0, 1) := by decide +kernel
theorem dL_span_4 : decode cL_span 4 = .ok (.iload_n 1, 1) := by decide +kernel
theorem dL_span_5 : decode cL_span 5 = .ok (.iload_n 2, 1) := by decide +kernel
theorem dL_span_6 : decode cL_span 6 = .ok (.iload_n 3, 1) := by decide +kernel
theorem dL_span_7 : decode cL_span 7 = .ok (.invokevirtual 41, 3) := by decide +kernel
theorem dL_span_10 : decode cL_span 10 = .ok (.i2l, 1) := by decide +kernel
theorem dL_span_11 : decode cL_span 11 = .ok (.lastore, 1) := by decide +kernel
theorem dL_span_12 : decode cL_span 12 = .ok (.goto 11, 3) := by decide +kernel
theorem dL_span_15 : decode cL_span 15 = .ok (.astore 5, 2) := by decide +kernel
theorem dL_span_17 : decode cL_span 17 = .ok (.iconst 1, 1) := by decide +kernel
theorem dL_span_18 : decode cL_span 18 = .ok (.ireturn, 1) := by decide +kernel
theorem dL_span_19 : decode cL_span 19 = .ok (.astore 5, 2) := by decide +kernel
theorem dL_span_21 : decode cL_span 21 = .ok (.iconst 2, 1) := by decide +kernel
theorem dL_span_22 : decode cL_span 22 = .ok (.ireturn, 1) := by decide +kernel
theorem dL_span_23 : decode cL_span 23 = .ok (.iconst 0, 1) := by decide +kernel
theorem dL_span_24 : decode cL_span 24 = .ok (.ireturn, 1) := by decide +kernel
theorem dL_adjust_0 : decode cL_adjust 0 = .ok (.aload_n 0, 1) := by decide +kernel
theorem dL_adjust_1 : decode cL_adjust 1 = .ok (.iload_n 1, 1) := by decide +kernel
theorem dL_adjust_2 : decode cL_adjust 2 = .ok (.iload_n 2, 1) := by decide +kernel
theorem dL_adjust_3 : decode cL_adjust 3 = .ok (.iload_n 3, 1) := by decide +kernel
theorem dL_adjust_4 : decode cL_adjust 4 = .ok (.invokevirtual 45, 3) := by decide +kernel
theorem dL_adjust_7 : decode cL_adjust 7 = .ok (.goto 15, 3) := by decide +kernel
theorem dL_adjust_10 : decode cL_adjust 10 = .ok (.astore 4, 2) := by decide +kernel
theorem dL_adjust_12 : decode cL_adjust 12 = .ok (.iconst 1, 1) := by decide +kernel
theorem dL_adjust_13 : decode cL_adjust 13 = .ok (.ireturn, 1) := by decide +kernel
theorem dL_adjust_14 : decode cL_adjust 14 = .ok (.astore 4, 2) := by decide +kernel
theorem dL_adjust_16 : decode cL_adjust 16 = .ok (.iconst 2, 1) := by decide +kernel
theorem dL_adjust_17 : decode cL_adjust 17 = .ok (.ireturn, 1) := by decide +kernel
theorem dL_adjust_18 : decode cL_adjust 18 = .ok (.astore 4, 2) := by decide +kernel
theorem dL_adjust_20 : decode cL_adjust 20 = .ok (.iconst 3, 1) := by decide +kernel
theorem dL_adjust_21 : decode cL_adjust 21 = .ok (.ireturn, 1) := by decide +kernel
theorem dL_adjust_22 : decode cL_adjust 22 = .ok (.iconst 0, 1) := by decide +kernel
theorem dL_adjust_23 : decode cL_adjust 23 = .ok (.ireturn, 1) := by decide +kernel
theorem dL_copy_0 : decode cL_copy 0 = .ok (.aload_n 3, 1) := by decide +kernel
theorem dL_copy_1 : decode cL_copy 1 = .ok (.iconst 0, 1) := by decide +kernel
theorem dL_copy_2 : decode cL_copy 2 = .ok (.aload_n 0, 1) := by decide +kernel
theorem dL_copy_3 : decode cL_copy 3 = .ok (.iload_n 1, 1) := by decide +kernel
theorem dL_copy_4 : decode cL_copy 4 = .ok (.iload_n 2, 1) := by decide +kernel
theorem dL_copy_5 : decode cL_copy 5 = .ok (.invokevirtual 49, 3) := by decide +kernel
theorem dL_copy_8 : decode cL_copy 8 = .ok (.i2l, 1) := by decide +kernel
theorem dL_copy_9 : decode cL_copy 9 = .ok (.lastore, 1) := by decide +kernel
theorem dL_copy_10 : decode cL_copy 10 = .ok (.goto 7, 3) := by decide +kernel
theorem dL_copy_13 : decode cL_copy 13 = .ok (.astore 4, 2) := by decide +kernel
theorem dL_copy_15 : decode cL_copy 15 = .ok (.iconst 1, 1) := by decide +kernel
theorem dL_copy_16 : decode cL_copy 16 = .ok (.ireturn, 1) := by decide +kernel
theorem dL_copy_17 : decode cL_copy 17 = .ok (.iconst 0, 1) := by decide +kernel
theorem dL_copy_18 : decode cL_copy 18 = .ok (.ireturn, 1) := by decide +kernel
theorem dL_offset_0 : decode cL_offset 0 = .ok (.aload 4, 2) := by decide +kernel
theorem dL_offset_2 : decode cL_offset 2 = .ok (.iconst 0, 1) := by decide +kernel
theorem dL_offset_3 : decode cL_offset 3 = .ok (.aload_n 0, 1) := by decide +kernel
theorem dL_offset_4 : decode cL_offset 4 = .ok (.iload_n 1, 1) := by decide +kernel
theorem dL_offset_5 : decode cL_offset 5 = .ok (.lload_n 2, 1) := by decide +kernel
theorem dL_offset_6 : decode cL_offset 6 = .ok (.invokevirtual 53, 3) := by decide +kernel
theorem dL_offset_9 : decode cL_offset 9 = .ok (.i2l, 1) := by decide +kernel
theorem dL_offset_10 : decode cL_offset 10 = .ok (.lastore, 1) := by decide +kernel
theorem dL_offset_11 : decode cL_offset 11 = .ok (.goto 7, 3) := by decide +kernel
theorem dL_offset_14 : decode cL_offset 14 = .ok (.astore 5, 2) := by decide +kernel
theorem dL_offset_16 : decode cL_offset 16 = .ok (.iconst 1, 1) := by decide +kernel
theorem dL_offset_17 : decode cL_offset 17 = .ok (.ireturn, 1) := by decide +kernel
theorem dL_offset_18 : decode cL_offset 18 = .ok (.iconst 0, 1) := by decide +kernel
theorem dL_offset_19 : decode cL_offset 19 = .ok (.ireturn, 1) := by decide +kernel
theorem dL_moment_0 : decode cL_moment 0 = .ok (.aload 4, 2) := by decide +kernel
theorem dL_moment_2 : decode cL_moment 2 = .ok (.iconst 0, 1) := by decide +kernel
theorem dL_moment_3 : decode cL_moment 3 = .ok (.aload_n 0, 1) := by decide +kernel
theorem dL_moment_4 : decode cL_moment 4 = .ok (.iload_n 1, 1) := by decide +kernel
theorem dL_moment_5 : decode cL_moment 5 = .ok (.iload_n 2, 1) := by decide +kernel
theorem dL_moment_6 : decode cL_moment 6 = .ok (.iload_n 3, 1) := by decide +kernel
theorem dL_moment_7 : decode cL_moment 7 = .ok (.invokevirtual 57, 3) := by decide +kernel
theorem dL_moment_10 : decode cL_moment 10 = .ok (.lastore, 1) := by decide +kernel
theorem dL_moment_11 : decode cL_moment 11 = .ok (.goto 11, 3) := by decide +kernel
theorem dL_moment_14 : decode cL_moment 14 = .ok (.astore 5, 2) := by decide +kernel
theorem dL_moment_16 : decode cL_moment 16 = .ok (.iconst 1, 1) := by decide +kernel
theorem dL_moment_17 : decode cL_moment 17 = .ok (.ireturn, 1) := by decide +kernel
theorem dL_moment_18 : decode cL_moment 18 = .ok (.astore 5, 2) := by decide +kernel
theorem dL_moment_20 : decode cL_moment 20 = .ok (.iconst 2, 1) := by decide +kernel
theorem dL_moment_21 : decode cL_moment 21 = .ok (.ireturn, 1) := by decide +kernel
theorem dL_moment_22 : decode cL_moment 22 = .ok (.iconst 0, 1) := by decide +kernel
theorem dL_moment_23 : decode cL_moment 23 = .ok (.ireturn, 1) := by decide +kernel
theorem dL_show_0 : decode cL_show 0 = .ok (.aload_n 0, 1) := by decide +kernel
theorem dL_show_1 : decode cL_show 1 = .ok (.iload_n 1, 1) := by decide +kernel
theorem dL_show_2 : decode cL_show 2 = .ok (.iload_n 2, 1) := by decide +kernel
theorem dL_show_3 : decode cL_show 3 = .ok (.lload_n 3, 1) := by decide +kernel
theorem dL_show_4 : decode cL_show 4 = .ok (.invokevirtual 61, 3) := by decide +kernel
theorem dL_show_7 : decode cL_show 7 = .ok (.goto 15, 3) := by decide +kernel
theorem dL_show_10 : decode cL_show 10 = .ok (.astore 5, 2) := by decide +kernel
theorem dL_show_12 : decode cL_show 12 = .ok (.iconst 1, 1) := by decide +kernel
theorem dL_show_13 : decode cL_show 13 = .ok (.ireturn, 1) := by decide +kernel
theorem dL_show_14 : decode cL_show 14 = .ok (.astore 5, 2) := by decide +kernel
theorem dL_show_16 : decode cL_show 16 = .ok (.iconst 2, 1) := by decide +kernel
theorem dL_show_17 : decode cL_show 17 = .ok (.ireturn, 1) := by decide +kernel
theorem dL_show_18 : decode cL_show 18 = .ok (.astore 5, 2) := by decide +kernel
theorem dL_show_20 : decode cL_show 20 = .ok (.iconst 3, 1) := by decide +kernel
theorem dL_show_21 : decode cL_show 21 = .ok (.ireturn, 1) := by decide +kernel
theorem dL_show_22 : decode cL_show 22 = .ok (.iconst 0, 1) := by decide +kernel
theorem dL_show_23 : decode cL_show 23 = .ok (.ireturn, 1) := by decide +kernel
theorem dL_julian_0 : decode cL_julian 0 = .ok (.aload_n 2, 1) := by decide +kernel
theorem dL_julian_1 : decode cL_julian 1 = .ok (.iconst 0, 1) := by decide +kernel
theorem dL_julian_2 : decode cL_julian 2 = .ok (.aload_n 0, 1) := by decide +kernel
theorem dL_julian_3 : decode cL_julian 3 = .ok (.iload_n 1, 1) := by decide +kernel
theorem dL_julian_4 : decode cL_julian 4 = .ok (.invokevirtual 64, 3) := by decide +kernel
theorem dL_julian_7 : decode cL_julian 7 = .ok (.dastore, 1) := by decide +kernel
theorem dL_julian_8 : decode cL_julian 8 = .ok (.goto 6, 3) := by decide +kernel
theorem dL_julian_11 : decode cL_julian 11 = .ok (.astore_n 3, 1) := by decide +kernel
theorem dL_julian_12 : decode cL_julian 12 = .ok (.iconst 1, 1) := by decide +kernel
theorem dL_julian_13 : decode cL_julian 13 = .ok (.ireturn, 1) := by decide +kernel
theorem dL_julian_14 : decode cL_julian 14 = .ok (.iconst 0, 1) := by decide +kernel
theorem dL_julian_15 : decode cL_julian 15 = .ok (.ireturn, 1) := by decide +kernel
theorem dL_parse_0 : decode cL_parse 0 = .ok (.aload_n 0, 1) := by decide +kernel
theorem dL_parse_1 : decode cL_parse 1 = .ok (.iload_n 1, 1) := by decide +kernel
theorem dL_parse_2 : decode cL_parse 2 = .ok (.invokevirtual 68, 3) := by decide +kernel
theorem dL_parse_5 : decode cL_parse 5 = .ok (.goto 9, 3) := by decide +kernel
theorem dL_parse_8 : decode cL_parse 8 = .ok (.astore_n 2, 1) := by decide +kernel
theorem dL_parse_9 : decode cL_parse 9 = .ok (.iconst 1, 1) := by decide +kernel
theorem dL_parse_10 : decode cL_parse 10 = .ok (.ireturn, 1) := by decide +kernel
theorem dL_parse_11 : decode cL_parse 11 = .ok (.astore_n 2, 1) := by decide +kernel
theorem dL_parse_12 : decode cL_parse 12 = .ok (.iconst 2, 1) := by decide +kernel
theorem dL_parse_13 : decode cL_parse 13 = .ok (.ireturn, 1) := by decide +kernel
theorem dL_parse_14 : decode cL_parse 14 = .ok (.iconst 0, 1) := by decide +kernel
theorem dL_parse_15 : decode cL_parse 15 = .ok (.ireturn, 1) := by decide +kernel
theorem dL_text_0 : decode cL_text 0 = .ok (.aload_n 3, 1) := by decide +kernel
theorem dL_text_1 : decode cL_text 1 = .ok (.iconst 0, 1) := by decide +kernel
theorem dL_text_2 : decode cL_text 2 = .ok (.aload_n 0, 1) := by decide +kernel
theorem dL_text_3 : decode cL_text 3 = .ok (.iload_n 1, 1) := by decide +kernel
theorem dL_text_4 : decode cL_text 4 = .ok (.iload_n 2, 1) := by decide +kernel
theorem dL_text_5 : decode cL_text 5 = .ok (.invokevirtual 72, 3) := by decide +kernel
theorem dL_text_8 : decode cL_text 8 = .ok (.i2l, 1) := by decide +kernel
theorem dL_text_9 : decode cL_text 9 = .ok (.lastore, 1) := by decide +kernel
theorem dL_text_10 : decode cL_text 10 = .ok (.goto 11, 3) := by decide +kernel
theorem dL_text_13 : decode cL_text 13 = .ok (.astore 4, 2) := by decide +kernel
theorem dL_text_15 : decode cL_text 15 = .ok (.iconst 1, 1) := by decide +kernel
theorem dL_text_16 : decode cL_text 16 = .ok (.ireturn, 1) := by decide +kernel
theorem dL_text_17 : decode cL_text 17 = .ok (.astore 4, 2) := by decide +kernel
theorem dL_text_19 : decode cL_text 19 = .ok (.iconst 2, 1) := by decide +kernel
theorem dL_text_20 : decode cL_text 20 = .ok (.ireturn, 1) := by decide +kernel
theorem dL_text_21 : decode cL_text 21 = .ok (.iconst 0, 1) := by decide +kernel
theorem dL_text_22 : decode cL_text 22 = .ok (.ireturn, 1) := by decide +kernel
theorem dL_law_0 : decode cL_law 0 = .ok (.new 8, 3) := by decide +kernel
theorem dL_law_3 : decode cL_law 3 = .ok (.dup, 1) := by decide +kernel
theorem dL_law_4 : decode cL_law 4 = .ok (.invokespecial 75, 3) := by decide +kernel
theorem dL_law_7 : decode cL_law 7 = .ok (.astore_n 1, 1) := by decide +kernel
theorem dL_law_8 : decode cL_law 8 = .ok (.new 76, 3) := by decide +kernel
theorem dL_law_11 : decode cL_law 11 = .ok (.dup, 1) := by decide +kernel
theorem dL_law_12 : decode cL_law 12 = .ok (.invokespecial 78, 3) := by decide +kernel
theorem dL_law_15 : decode cL_law 15 = .ok (.astore_n 2, 1) := by decide +kernel
theorem dL_law_16 : decode cL_law 16 = .ok (.iconst 1, 1) := by decide +kernel
theorem dL_law_17 : decode cL_law 17 = .ok (.newarray .long, 2) := by decide +kernel
theorem dL_law_19 : decode cL_law 19 = .ok (.astore_n 3, 1) := by decide +kernel
theorem dL_law_20 : decode cL_law 20 = .ok (.iconst 1, 1) := by decide +kernel
theorem dL_law_21 : decode cL_law 21 = .ok (.newarray .double, 2) := by decide +kernel
theorem dL_law_23 : decode cL_law 23 = .ok (.astore 4, 2) := by decide +kernel
theorem dL_law_25 : decode cL_law 25 = .ok (.iconst 0, 1) := by decide +kernel
theorem dL_law_26 : decode cL_law 26 = .ok (.istore 5, 2) := by decide +kernel
theorem dL_law_28 : decode cL_law 28 = .ok (.iload 5, 2) := by decide +kernel
theorem dL_law_30 : decode cL_law 30 = .ok (.aload_n 0, 1) := by decide +kernel
theorem dL_law_31 : decode cL_law 31 = .ok (.arraylength, 1) := by decide +kernel
theorem dL_law_32 : decode cL_law 32 = .ok (.bipush 7, 2) := by decide +kernel
theorem dL_law_34 : decode cL_law 34 = .ok (.isub, 1) := by decide +kernel
theorem dL_law_35 : decode cL_law 35 = .ok (.if_icmp .gt 1501, 3) := by decide +kernel
theorem dL_law_38 : decode cL_law 38 = .ok (.aload_n 0, 1) := by decide +kernel
theorem dL_law_39 : decode cL_law 39 = .ok (.iload 5, 2) := by decide +kernel
theorem dL_law_41 : decode cL_law 41 = .ok (.iaload, 1) := by decide +kernel
theorem dL_law_42 : decode cL_law 42 = .ok (.bipush 31, 2) := by decide +kernel
theorem dL_law_44 : decode cL_law 44 = .ok (.iand, 1) := by decide +kernel
theorem dL_law_45 : decode cL_law 45 = .ok (.tableswitch 1485 0 18 #[91, 163, 247, 314, 406, 498, 577, 657, 717, 785, 822, 903, 990, 1090, 1185, 1277, 1354, 1381, 1417], 91) := by decide +kernel
theorem dL_law_136 : decode cL_law 136 = .ok (.aload_n 1, 1) := by decide +kernel
theorem dL_law_137 : decode cL_law 137 = .ok (.aload_n 0, 1) := by decide +kernel
theorem dL_law_138 : decode cL_law 138 = .ok (.iload 5, 2) := by decide +kernel
theorem dL_law_140 : decode cL_law 140 = .ok (.iconst 1, 1) := by decide +kernel
theorem dL_law_141 : decode cL_law 141 = .ok (.iadd, 1) := by decide +kernel
theorem dL_law_142 : decode cL_law 142 = .ok (.iaload, 1) := by decide +kernel
theorem dL_law_143 : decode cL_law 143 = .ok (.aload_n 0, 1) := by decide +kernel
theorem dL_law_144 : decode cL_law 144 = .ok (.iload 5, 2) := by decide +kernel
theorem dL_law_146 : decode cL_law 146 = .ok (.iconst 2, 1) := by decide +kernel
theorem dL_law_147 : decode cL_law 147 = .ok (.iadd, 1) := by decide +kernel
theorem dL_law_148 : decode cL_law 148 = .ok (.iaload, 1) := by decide +kernel
theorem dL_law_149 : decode cL_law 149 = .ok (.aload_n 0, 1) := by decide +kernel
theorem dL_law_150 : decode cL_law 150 = .ok (.iload 5, 2) := by decide +kernel
theorem dL_law_152 : decode cL_law 152 = .ok (.iconst 3, 1) := by decide +kernel
theorem dL_law_153 : decode cL_law 153 = .ok (.iadd, 1) := by decide +kernel
theorem dL_law_154 : decode cL_law 154 = .ok (.iaload, 1) := by decide +kernel
theorem dL_law_155 : decode cL_law 155 = .ok (.aload_n 0, 1) := by decide +kernel
theorem dL_law_156 : decode cL_law 156 = .ok (.iload 5, 2) := by decide +kernel
theorem dL_law_158 : decode cL_law 158 = .ok (.iconst 4, 1) := by decide +kernel
theorem dL_law_159 : decode cL_law 159 = .ok (.iadd, 1) := by decide +kernel
theorem dL_law_160 : decode cL_law 160 = .ok (.iaload, 1) := by decide +kernel
theorem dL_law_161 : decode cL_law 161 = .ok (.invokestatic 79, 3) := by decide +kernel
theorem dL_law_164 : decode cL_law 164 = .ok (.istore 6, 2) := by decide +kernel
theorem dL_law_166 : decode cL_law 166 = .ok (.aload_n 2, 1) := by decide +kernel
theorem dL_law_167 : decode cL_law 167 = .ok (.aload_n 0, 1) := by decide +kernel
theorem dL_law_168 : decode cL_law 168 = .ok (.iload 5, 2) := by decide +kernel
theorem dL_law_170 : decode cL_law 170 = .ok (.iconst 1, 1) := by decide +kernel
theorem dL_law_171 : decode cL_law 171 = .ok (.iadd, 1) := by decide +kernel
theorem dL_law_172 : decode cL_law 172 = .ok (.iaload, 1) := by decide +kernel
theorem dL_law_173 : decode cL_law 173 = .ok (.aload_n 0, 1) := by decide +kernel
theorem dL_law_174 : decode cL_law 174 = .ok (.iload 5, 2) := by decide +kernel
theorem dL_law_176 : decode cL_law 176 = .ok (.iconst 2, 1) := by decide +kernel
theorem dL_law_177 : decode cL_law 177 = .ok (.iadd, 1) := by decide +kernel
