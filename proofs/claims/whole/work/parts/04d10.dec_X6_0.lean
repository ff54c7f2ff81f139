theorem dX6_init_0 : decode cX6_init 0 = .ok (.aload_n 0, 1) := by decide +kernel
theorem dX6_init_1 : decode cX6_init 1 = .ok (.invokespecial 5, 3) := by decide +kernel
theorem dX6_init_4 : decode cX6_init 4 = .ok (.aload_n 0, 1) := by decide +kernel
theorem dX6_init_5 : decode cX6_init 5 = .ok (.bipush 8, 2) := by decide +kernel
theorem dX6_init_7 : decode cX6_init 7 = .ok (.anewarray 11, 3) := by decide +kernel
theorem dX6_init_10 : decode cX6_init 10 = .ok (.putfield 13, 3) := by decide +kernel
theorem dX6_init_13 : decode cX6_init 13 = .ok (.iconst 0, 1) := by decide +kernel
theorem dX6_init_14 : decode cX6_init 14 = .ok (.istore_n 1, 1) := by decide +kernel
theorem dX6_init_15 : decode cX6_init 15 = .ok (.iload_n 1, 1) := by decide +kernel
theorem dX6_init_16 : decode cX6_init 16 = .ok (.bipush 8, 2) := by decide +kernel
theorem dX6_init_18 : decode cX6_init 18 = .ok (.if_icmp .ge 22, 3) := by decide +kernel
theorem dX6_init_21 : decode cX6_init 21 = .ok (.aload_n 0, 1) := by decide +kernel
theorem dX6_init_22 : decode cX6_init 22 = .ok (.getfield 13, 3) := by decide +kernel
theorem dX6_init_25 : decode cX6_init 25 = .ok (.iload_n 1, 1) := by decide +kernel
theorem dX6_init_26 : decode cX6_init 26 = .ok (.new 11, 3) := by decide +kernel
theorem dX6_init_29 : decode cX6_init 29 = .ok (.dup, 1) := by decide +kernel
theorem dX6_init_30 : decode cX6_init 30 = .ok (.invokespecial 17, 3) := by decide +kernel
theorem dX6_init_33 : decode cX6_init 33 = .ok (.aastore, 1) := by decide +kernel
theorem dX6_init_34 : decode cX6_init 34 = .ok (.iinc 1 1, 3) := by decide +kernel
theorem dX6_init_37 : decode cX6_init 37 = .ok (.goto (-22), 3) := by decide +kernel
theorem dX6_init_40 : decode cX6_init 40 = .ok (.aload_n 0, 1) := by decide +kernel
theorem dX6_init_41 : decode cX6_init 41 = .ok (.iconst 4, 1) := by decide +kernel
theorem dX6_init_42 : decode cX6_init 42 = .ok (.anewarray 18, 3) := by decide +kernel
theorem dX6_init_45 : decode cX6_init 45 = .ok (.putfield 20, 3) := by decide +kernel
theorem dX6_init_48 : decode cX6_init 48 = .ok (.iconst 0, 1) := by decide +kernel
theorem dX6_init_49 : decode cX6_init 49 = .ok (.istore_n 1, 1) := by decide +kernel
theorem dX6_init_50 : decode cX6_init 50 = .ok (.iload_n 1, 1) := by decide +kernel
theorem dX6_init_51 : decode cX6_init 51 = .ok (.iconst 4, 1) := by decide +kernel
theorem dX6_init_52 : decode cX6_init 52 = .ok (.if_icmp .ge 22, 3) := by decide +kernel
theorem dX6_init_55 : decode cX6_init 55 = .ok (.aload_n 0, 1) := by decide +kernel
theorem dX6_init_56 : decode cX6_init 56 = .ok (.getfield 20, 3) := by decide +kernel
theorem dX6_init_59 : decode cX6_init 59 = .ok (.iload_n 1, 1) := by decide +kernel
theorem dX6_init_60 : decode cX6_init 60 = .ok (.new 18, 3) := by decide +kernel
theorem dX6_init_63 : decode cX6_init 63 = .ok (.dup, 1) := by decide +kernel
theorem dX6_init_64 : decode cX6_init 64 = .ok (.invokespecial 24, 3) := by decide +kernel
theorem dX6_init_67 : decode cX6_init 67 = .ok (.aastore, 1) := by decide +kernel
theorem dX6_init_68 : decode cX6_init 68 = .ok (.iinc 1 1, 3) := by decide +kernel
theorem dX6_init_71 : decode cX6_init 71 = .ok (.goto (-21), 3) := by decide +kernel
theorem dX6_init_74 : decode cX6_init 74 = .ok (.aload_n 0, 1) := by decide +kernel
theorem dX6_init_75 : decode cX6_init 75 = .ok (.new 25, 3) := by decide +kernel
theorem dX6_init_78 : decode cX6_init 78 = .ok (.dup, 1) := by decide +kernel
theorem dX6_init_79 : decode cX6_init 79 = .ok (.invokespecial 27, 3) := by decide +kernel
theorem dX6_init_82 : decode cX6_init 82 = .ok (.putfield 28, 3) := by decide +kernel
theorem dX6_init_85 : decode cX6_init 85 = .ok (.aload_n 0, 1) := by decide +kernel
theorem dX6_init_86 : decode cX6_init 86 = .ok (.new 32, 3) := by decide +kernel
theorem dX6_init_89 : decode cX6_init 89 = .ok (.dup, 1) := by decide +kernel
theorem dX6_init_90 : decode cX6_init 90 = .ok (.invokespecial 34, 3) := by decide +kernel
theorem dX6_init_93 : decode cX6_init 93 = .ok (.putfield 35, 3) := by decide +kernel
theorem dX6_init_96 : decode cX6_init 96 = .ok (.return_, 1) := by decide +kernel
theorem dX6_date_0 : decode cX6_date 0 = .ok (.aload_n 0, 1) := by decide +kernel
theorem dX6_date_1 : decode cX6_date 1 = .ok (.iload_n 1, 1) := by decide +kernel
theorem dX6_date_2 : decode cX6_date 2 = .ok (.invokevirtual 39, 3) := by decide +kernel
theorem dX6_date_5 : decode cX6_date 5 = .ok (.astore 5, 2) := by decide +kernel
theorem dX6_date_7 : decode cX6_date 7 = .ok (.iload_n 2, 1) := by decide +kernel
theorem dX6_date_8 : decode cX6_date 8 = .ok (.iload_n 3, 1) := by decide +kernel
theorem dX6_date_9 : decode cX6_date 9 = .ok (.iload 4, 2) := by decide +kernel
theorem dX6_date_11 : decode cX6_date 11 = .ok (.invokestatic 43, 3) := by decide +kernel
theorem dX6_date_14 : decode cX6_date 14 = .ok (.ifCond .ne 13, 3) := by decide +kernel
theorem dX6_date_17 : decode cX6_date 17 = .ok (.new 49, 3) := by decide +kernel
theorem dX6_date_20 : decode cX6_date 20 = .ok (.dup, 1) := by decide +kernel
theorem dX6_date_21 : decode cX6_date 21 = .ok (.ldc 51, 2) := by decide +kernel
theorem dX6_date_23 : decode cX6_date 23 = .ok (.invokespecial 53, 3) := by decide +kernel
theorem dX6_date_26 : decode cX6_date 26 = .ok (.athrow, 1) := by decide +kernel
theorem dX6_date_27 : decode cX6_date 27 = .ok (.aload 5, 2) := by decide +kernel
theorem dX6_date_29 : decode cX6_date 29 = .ok (.iload_n 2, 1) := by decide +kernel
theorem dX6_date_30 : decode cX6_date 30 = .ok (.iload_n 3, 1) := by decide +kernel
theorem dX6_date_31 : decode cX6_date 31 = .ok (.iload 4, 2) := by decide +kernel
theorem dX6_date_33 : decode cX6_date 33 = .ok (.invokevirtual 56, 3) := by decide +kernel
theorem dX6_date_36 : decode cX6_date 36 = .ok (.return_, 1) := by decide +kernel
theorem dX6_time_0 : decode cX6_time 0 = .ok (.aload_n 0, 1) := by decide +kernel
theorem dX6_time_1 : decode cX6_time 1 = .ok (.iload_n 1, 1) := by decide +kernel
theorem dX6_time_2 : decode cX6_time 2 = .ok (.invokevirtual 39, 3) := by decide +kernel
theorem dX6_time_5 : decode cX6_time 5 = .ok (.astore 6, 2) := by decide +kernel
theorem dX6_time_7 : decode cX6_time 7 = .ok (.iload_n 2, 1) := by decide +kernel
theorem dX6_time_8 : decode cX6_time 8 = .ok (.iload_n 3, 1) := by decide +kernel
theorem dX6_time_9 : decode cX6_time 9 = .ok (.iload 4, 2) := by decide +kernel
theorem dX6_time_11 : decode cX6_time 11 = .ok (.iload 5, 2) := by decide +kernel
theorem dX6_time_13 : decode cX6_time 13 = .ok (.invokestatic 60, 3) := by decide +kernel
theorem dX6_time_16 : decode cX6_time 16 = .ok (.ifCond .ne 13, 3) := by decide +kernel
theorem dX6_time_19 : decode cX6_time 19 = .ok (.new 49, 3) := by decide +kernel
theorem dX6_time_22 : decode cX6_time 22 = .ok (.dup, 1) := by decide +kernel
theorem dX6_time_23 : decode cX6_time 23 = .ok (.ldc 64, 2) := by decide +kernel
theorem dX6_time_25 : decode cX6_time 25 = .ok (.invokespecial 53, 3) := by decide +kernel
theorem dX6_time_28 : decode cX6_time 28 = .ok (.athrow, 1) := by decide +kernel
theorem dX6_time_29 : decode cX6_time 29 = .ok (.aload 6, 2) := by decide +kernel
theorem dX6_time_31 : decode cX6_time 31 = .ok (.iload_n 2, 1) := by decide +kernel
theorem dX6_time_32 : decode cX6_time 32 = .ok (.iload_n 3, 1) := by decide +kernel
theorem dX6_time_33 : decode cX6_time 33 = .ok (.iload 4, 2) := by decide +kernel
theorem dX6_time_35 : decode cX6_time 35 = .ok (.iload 5, 2) := by decide +kernel
theorem dX6_time_37 : decode cX6_time 37 = .ok (.invokestatic 66, 3) := by decide +kernel
theorem dX6_time_40 : decode cX6_time 40 = .ok (.invokevirtual 70, 3) := by decide +kernel
theorem dX6_time_43 : decode cX6_time 43 = .ok (.return_, 1) := by decide +kernel
theorem dX6_get_0 : decode cX6_get 0 = .ok (.aload_n 0, 1) := by decide +kernel
theorem dX6_get_1 : decode cX6_get 1 = .ok (.iload_n 1, 1) := by decide +kernel
theorem dX6_get_2 : decode cX6_get 2 = .ok (.invokevirtual 39, 3) := by decide +kernel
theorem dX6_get_5 : decode cX6_get 5 = .ok (.astore_n 3, 1) := by decide +kernel
theorem dX6_get_6 : decode cX6_get 6 = .ok (.iload_n 2, 1) := by decide +kernel
theorem dX6_get_7 : decode cX6_get 7 = .ok (.ifCond .lt 9, 3) := by decide +kernel
theorem dX6_get_10 : decode cX6_get 10 = .ok (.iload_n 2, 1) := by decide +kernel
theorem dX6_get_11 : decode cX6_get 11 = .ok (.bipush 15, 2) := by decide +kernel
theorem dX6_get_13 : decode cX6_get 13 = .ok (.if_icmp .le 13, 3) := by decide +kernel
theorem dX6_get_16 : decode cX6_get 16 = .ok (.new 74, 3) := by decide +kernel
theorem dX6_get_19 : decode cX6_get 19 = .ok (.dup, 1) := by decide +kernel
theorem dX6_get_20 : decode cX6_get 20 = .ok (.ldc 76, 2) := by decide +kernel
theorem dX6_get_22 : decode cX6_get 22 = .ok (.invokespecial 78, 3) := by decide +kernel
theorem dX6_get_25 : decode cX6_get 25 = .ok (.athrow, 1) := by decide +kernel
theorem dX6_get_26 : decode cX6_get 26 = .ok (.iload_n 2, 1) := by decide +kernel
theorem dX6_get_27 : decode cX6_get 27 = .ok (.invokestatic 79, 3) := by decide +kernel
theorem dX6_get_30 : decode cX6_get 30 = .ok (.ifCond .eq 11, 3) := by decide +kernel
theorem dX6_get_33 : decode cX6_get 33 = .ok (.aload_n 3, 1) := by decide +kernel
theorem dX6_get_34 : decode cX6_get 34 = .ok (.iload_n 2, 1) := by decide +kernel
theorem dX6_get_35 : decode cX6_get 35 = .ok (.invokevirtual 83, 3) := by decide +kernel
theorem dX6_get_38 : decode cX6_get 38 = .ok (.goto 8, 3) := by decide +kernel
theorem dX6_get_41 : decode cX6_get 41 = .ok (.aload_n 3, 1) := by decide +kernel
theorem dX6_get_42 : decode cX6_get 42 = .ok (.iload_n 2, 1) := by decide +kernel
theorem dX6_get_43 : decode cX6_get 43 = .ok (.invokevirtual 87, 3) := by decide +kernel
theorem dX6_get_46 : decode cX6_get 46 = .ok (.lreturn, 1) := by decide +kernel
theorem dX6_with_0 : decode cX6_with 0 = .ok (.aload_n 0, 1) := by decide +kernel
theorem dX6_with_1 : decode cX6_with 1 = .ok (.iload_n 1, 1) := by decide +kernel
theorem dX6_with_2 : decode cX6_with 2 = .ok (.invokevirtual 39, 3) := by decide +kernel
theorem dX6_with_5 : decode cX6_with 5 = .ok (.astore 5, 2) := by decide +kernel
theorem dX6_with_7 : decode cX6_with 7 = .ok (.iload_n 2, 1) := by decide +kernel
theorem dX6_with_8 : decode cX6_with 8 = .ok (.ifCond .lt 21, 3) := by decide +kernel
theorem dX6_with_11 : decode cX6_with 11 = .ok (.iload_n 2, 1) := by decide +kernel
theorem dX6_with_12 : decode cX6_with 12 = .ok (.bipush 15, 2) := by decide +kernel
theorem dX6_with_14 : decode cX6_with 14 = .ok (.if_icmp .gt 15, 3) := by decide +kernel
theorem dX6_with_17 : decode cX6_with 17 = .ok (.iload_n 2, 1) := by decide +kernel
theorem dX6_with_18 : decode cX6_with 18 = .ok (.bipush 13, 2) := by decide +kernel
theorem dX6_with_20 : decode cX6_with 20 = .ok (.if_icmp .eq 9, 3) := by decide +kernel
theorem dX6_with_23 : decode cX6_with 23 = .ok (.iload_n 2, 1) := by decide +kernel
theorem dX6_with_24 : decode cX6_with 24 = .ok (.bipush 14, 2) := by decide +kernel
theorem dX6_with_26 : decode cX6_with 26 = .ok (.if_icmp .ne 13, 3) := by decide +kernel
theorem dX6_with_29 : decode cX6_with 29 = .ok (.new 74, 3) := by decide +kernel
theorem dX6_with_32 : decode cX6_with 32 = .ok (.dup, 1) := by decide +kernel
theorem dX6_with_33 : decode cX6_with 33 = .ok (.ldc 90, 2) := by decide +kernel
theorem dX6_with_35 : decode cX6_with 35 = .ok (.invokespecial 78, 3) := by decide +kernel
theorem dX6_with_38 : decode cX6_with 38 = .ok (.athrow, 1) := by decide +kernel
theorem dX6_with_39 : decode cX6_with 39 = .ok (.iload_n 2, 1) := by decide +kernel
theorem dX6_with_40 : decode cX6_with 40 = .ok (.invokestatic 79, 3) := by decide +kernel
theorem dX6_with_43 : decode cX6_with 43 = .ok (.ifCond .eq 13, 3) := by decide +kernel
theorem dX6_with_46 : decode cX6_with 46 = .ok (.aload 5, 2) := by decide +kernel
theorem dX6_with_48 : decode cX6_with 48 = .ok (.iload_n 2, 1) := by decide +kernel
theorem dX6_with_49 : decode cX6_with 49 = .ok (.lload_n 3, 1) := by decide +kernel
theorem dX6_with_50 : decode cX6_with 50 = .ok (.invokevirtual 92, 3) := by decide +kernel
theorem dX6_with_53 : decode cX6_with 53 = .ok (.goto 10, 3) := by decide +kernel
theorem dX6_with_56 : decode cX6_with 56 = .ok (.aload 5, 2) := by decide +kernel
theorem dX6_with_58 : decode cX6_with 58 = .ok (.iload_n 2, 1) := by decide +kernel
theorem dX6_with_59 : decode cX6_with 59 = .ok (.lload_n 3, 1) := by decide +kernel
theorem dX6_with_60 : decode cX6_with 60 = .ok (.invokevirtual 96, 3) := by decide +kernel
theorem dX6_with_63 : decode cX6_with 63 = .ok (.istore 6, 2) := by decide +kernel
theorem dX6_with_65 : decode cX6_with 65 = .ok (.iload 6, 2) := by decide +kernel
theorem dX6_with_67 : decode cX6_with 67 = .ok (.ifCond .ne 13, 3) := by decide +kernel
theorem dX6_with_70 : decode cX6_with 70 = .ok (.new 49, 3) := by decide +kernel
theorem dX6_with_73 : decode cX6_with 73 = .ok (.dup, 1) := by decide +kernel
theorem dX6_with_74 : decode cX6_with 74 = .ok (.ldc 99, 2) := by decide +kernel
theorem dX6_with_76 : decode cX6_with 76 = .ok (.invokespecial 53, 3) := by decide +kernel
theorem dX6_with_79 : decode cX6_with 79 = .ok (.athrow, 1) := by decide +kernel
theorem dX6_with_80 : decode cX6_with 80 = .ok (.return_, 1) := by decide +kernel
theorem dX6_plus_0 : decode cX6_plus 0 = .ok (.aload_n 0, 1) := by decide +kernel
theorem dX6_plus_1 : decode cX6_plus 1 = .ok (.iload_n 1, 1) := by decide +kernel
theorem dX6_plus_2 : decode cX6_plus 2 = .ok (.invokevirtual 39, 3) := by decide +kernel
theorem dX6_plus_5 : decode cX6_plus 5 = .ok (.astore 5, 2) := by decide +kernel
theorem dX6_plus_7 : decode cX6_plus 7 = .ok (.iload 4, 2) := by decide +kernel
theorem dX6_plus_9 : decode cX6_plus 9 = .ok (.invokestatic 101, 3) := by decide +kernel
theorem dX6_plus_12 : decode cX6_plus 12 = .ok (.ifCond .ne 13, 3) := by decide +kernel
theorem dX6_plus_15 : decode cX6_plus 15 = .ok (.new 74, 3) := by decide +kernel
theorem dX6_plus_18 : decode cX6_plus 18 = .ok (.dup, 1) := by decide +kernel
theorem dX6_plus_19 : decode cX6_plus 19 = .ok (.ldc 104, 2) := by decide +kernel
theorem dX6_plus_21 : decode cX6_plus 21 = .ok (.invokespecial 78, 3) := by decide +kernel
theorem dX6_plus_24 : decode cX6_plus 24 = .ok (.athrow, 1) := by decide +kernel
theorem dX6_plus_25 : decode cX6_plus 25 = .ok (.aload 5, 2) := by decide +kernel
theorem dX6_plus_27 : decode cX6_plus 27 = .ok (.lload_n 2, 1) := by decide +kernel
theorem dX6_plus_28 : decode cX6_plus 28 = .ok (.iload 4, 2) := by decide +kernel
theorem dX6_plus_30 : decode cX6_plus 30 = .ok (.invokestatic 106, 3) := by decide +kernel
theorem dX6_plus_33 : decode cX6_plus 33 = .ok (.ifCond .ne 13, 3) := by decide +kernel
theorem dX6_plus_36 : decode cX6_plus 36 = .ok (.new 110, 3) := by decide +kernel
theorem dX6_plus_39 : decode cX6_plus 39 = .ok (.dup, 1) := by decide +kernel
theorem dX6_plus_40 : decode cX6_plus 40 = .ok (.ldc 112, 2) := by decide +kernel
theorem dX6_plus_42 : decode cX6_plus 42 = .ok (.invokespecial 114, 3) := by decide +kernel
theorem dX6_plus_45 : decode cX6_plus 45 = .ok (.athrow, 1) := by decide +kernel
theorem dX6_plus_46 : decode cX6_plus 46 = .ok (.return_, 1) := by decide +kernel
theorem dX6_until_0 : decode cX6_until 0 = .ok (.aload_n 0, 1) := by decide +kernel
theorem dX6_until_1 : decode cX6_until 1 = .ok (.iload_n 1, 1) := by decide +kernel
theorem dX6_until_2 : decode cX6_until 2 = .ok (.invokevirtual 39, 3) := by decide +kernel
theorem dX6_until_5 : decode cX6_until 5 = .ok (.astore 4, 2) := by decide +kernel
theorem dX6_until_7 : decode cX6_until 7 = .ok (.aload_n 0, 1) := by decide +kernel
theorem dX6_until_8 : decode cX6_until 8 = .ok (.iload_n 2, 1) := by decide +kernel
theorem dX6_until_9 : decode cX6_until 9 = .ok (.invokevirtual 39, 3) := by decide +kernel
theorem dX6_until_12 : decode cX6_until 12 = .ok (.astore 5, 2) := by decide +kernel
theorem dX6_until_14 : decode cX6_until 14 = .ok (.iload_n 3, 1) := by decide +kernel
theorem dX6_until_15 : decode cX6_until 15 = .ok (.invokestatic 101, 3) := by decide +kernel
theorem dX6_until_18 : decode cX6_until 18 = .ok (.ifCond .ne 13, 3) := by decide +kernel
theorem dX6_until_21 : decode cX6_until 21 = .ok (.new 74, 3) := by decide +kernel
theorem dX6_until_24 : decode cX6_until 24 = .ok (.dup, 1) := by decide +kernel
theorem dX6_until_25 : decode cX6_until 25 = .ok (.ldc 104, 2) := by decide +kernel
theorem dX6_until_27 : decode cX6_until 27 = .ok (.invokespecial 78, 3) := by decide +kernel
theorem dX6_until_30 : decode cX6_until 30 = .ok (.athrow, 1) := by decide +kernel
theorem dX6_until_31 : decode cX6_until 31 = .ok (.iload_n 3, 1) := by decide +kernel
theorem dX6_until_32 : decode cX6_until 32 = .ok (.bipush 8, 2) := by decide +kernel
theorem dX6_until_34 : decode cX6_until 34 = .ok (.if_icmp .le 28, 3) := by decide +kernel
theorem dX6_until_37 : decode cX6_until 37 = .ok (.aload 4, 2) := by decide +kernel
theorem dX6_until_39 : decode cX6_until 39 = .ok (.aload 5, 2) := by decide +kernel
theorem dX6_until_41 : decode cX6_until 41 = .ok (.aload 4, 2) := by decide +kernel
theorem dX6_until_43 : decode cX6_until 43 = .ok (.getfield 115, 3) := by decide +kernel
theorem dX6_until_46 : decode cX6_until 46 = .ok (.aload 5, 2) := by decide +kernel
theorem dX6_until_48 : decode cX6_until 48 = .ok (.getfield 115, 3) := by decide +kernel
theorem dX6_until_51 : decode cX6_until 51 = .ok (.invokevirtual 119, 3) := by decide +kernel
theorem dX6_until_54 : decode cX6_until 54 = .ok (.iload_n 3, 1) := by decide +kernel
theorem dX6_until_55 : decode cX6_until 55 = .ok (.invokestatic 123, 3) := by decide +kernel
theorem dX6_until_58 : decode cX6_until 58 = .ok (.invokestatic 126, 3) := by decide +kernel
theorem dX6_until_61 : decode cX6_until 61 = .ok (.lreturn, 1) := by decide +kernel
theorem dX6_until_62 : decode cX6_until 62 = .ok (.aload 4, 2) := by decide +kernel
theorem dX6_until_64 : decode cX6_until 64 = .ok (.aload 5, 2) := by decide +kernel
theorem dX6_until_66 : decode cX6_until 66 = .ok (.invokevirtual 130, 3) := by decide +kernel
theorem dX6_until_69 : decode cX6_until 69 = .ok (.lstore 6, 2) := by decide +kernel
theorem dX6_until_71 : decode cX6_until 71 = .ok (.iload_n 3, 1) := by decide +kernel
theorem dX6_until_72 : decode cX6_until 72 = .ok (.bipush 8, 2) := by decide +kernel
theorem dX6_until_74 : decode cX6_until 74 = .ok (.if_icmp .ne 10, 3) := by decide +kernel
theorem dX6_until_77 : decode cX6_until 77 = .ok (.lload 6, 2) := by decide +kernel
theorem dX6_until_79 : decode cX6_until 79 = .ok (.ldc2_w 134, 3) := by decide +kernel
theorem dX6_until_82 : decode cX6_until 82 = .ok (.ldiv, 1) := by decide +kernel
theorem dX6_until_83 : decode cX6_until 83 = .ok (.lreturn, 1) := by decide +kernel
theorem dX6_until_84 : decode cX6_until 84 = .ok (.aload 4, 2) := by decide +kernel
theorem dX6_until_86 : decode cX6_until 86 = .ok (.aload 5, 2) := by decide +kernel
theorem dX6_until_88 : decode cX6_until 88 = .ok (.invokevirtual 136, 3) := by decide +kernel
theorem dX6_until_91 : decode cX6_until 91 = .ok (.lstore 8, 2) := by decide +kernel
theorem dX6_until_93 : decode cX6_until 93 = .ok (.iload_n 3, 1) := by decide +kernel
theorem dX6_until_94 : decode cX6_until 94 = .ok (.ifCond .ne 23, 3) := by decide +kernel
theorem dX6_until_97 : decode cX6_until 97 = .ok (.lload 6, 2) := by decide +kernel
theorem dX6_until_99 : decode cX6_until 99 = .ok (.lload 8, 2) := by decide +kernel
theorem dX6_until_101 : decode cX6_until 101 = .ok (.invokestatic 139, 3) := by decide +kernel
theorem dX6_until_104 : decode cX6_until 104 = .ok (.ifCond .ne 13, 3) := by decide +kernel
theorem dX6_until_107 : decode cX6_until 107 = .ok (.new 110, 3) := by decide +kernel
theorem dX6_until_110 : decode cX6_until 110 = .ok (.dup, 1) := by decide +kernel
theorem dX6_until_111 : decode cX6_until 111 = .ok (.ldc 143, 2) := by decide +kernel
theorem dX6_until_113 : decode cX6_until 113 = .ok (.invokespecial 114, 3) := by decide +kernel
theorem dX6_until_116 : decode cX6_until 116 = .ok (.athrow, 1) := by decide +kernel
theorem dX6_until_117 : decode cX6_until 117 = .ok (.iload_n 3, 1) := by decide +kernel
theorem dX6_until_118 : decode cX6_until 118 = .ok (.invokestatic 145, 3) := by decide +kernel
theorem dX6_until_121 : decode cX6_until 121 = .ok (.lstore 10, 2) := by decide +kernel
theorem dX6_until_123 : decode cX6_until 123 = .ok (.lload 6, 2) := by decide +kernel
theorem dX6_until_125 : decode cX6_until 125 = .ok (.lload 10, 2) := by decide +kernel
theorem dX6_until_127 : decode cX6_until 127 = .ok (.lmul, 1) := by decide +kernel
theorem dX6_until_128 : decode cX6_until 128 = .ok (.lload 8, 2) := by decide +kernel
theorem dX6_until_130 : decode cX6_until 130 = .ok (.ldc2_w 148, 3) := by decide +kernel
theorem dX6_until_133 : decode cX6_until 133 = .ok (.lload 10, 2) := by decide +kernel
theorem dX6_until_135 : decode cX6_until 135 = .ok (.invokestatic 126, 3) := by decide +kernel
theorem dX6_until_138 : decode cX6_until 138 = .ok (.invokestatic 126, 3) := by decide +kernel
theorem dX6_until_141 : decode cX6_until 141 = .ok (.ladd, 1) := by decide +kernel
theorem dX6_until_142 : decode cX6_until 142 = .ok (.lreturn, 1) := by decide +kernel
theorem dX6_span_0 : decode cX6_span 0 = .ok (.aload_n 0, 1) := by decide +kernel
theorem dX6_span_1 : decode cX6_span 1 = .ok (.iload_n 1, 1) := by decide +kernel
theorem dX6_span_2 : decode cX6_span 2 = .ok (.invokevirtual 39, 3) := by decide +kernel
theorem dX6_span_5 : decode cX6_span 5 = .ok (.astore 4, 2) := by decide +kernel
theorem dX6_span_7 : decode cX6_span 7 = .ok (.aload_n 0, 1) := by decide +kernel
theorem dX6_span_8 : decode cX6_span 8 = .ok (.iload_n 2, 1) := by decide +kernel
theorem dX6_span_9 : decode cX6_span 9 = .ok (.invokevirtual 39, 3) := by decide +kernel
theorem dX6_span_12 : decode cX6_span 12 = .ok (.astore 5, 2) := by decide +kernel
theorem dX6_span_14 : decode cX6_span 14 = .ok (.iload_n 3, 1) := by decide +kernel
theorem dX6_span_15 : decode cX6_span 15 = .ok (.ifCond .lt 8, 3) := by decide +kernel
theorem dX6_span_18 : decode cX6_span 18 = .ok (.iload_n 3, 1) := by decide +kernel
theorem dX6_span_19 : decode cX6_span 19 = .ok (.iconst 2, 1) := by decide +kernel
theorem dX6_span_20 : decode cX6_span 20 = .ok (.if_icmp .le 13, 3) := by decide +kernel
theorem dX6_span_23 : decode cX6_span 23 = .ok (.new 74, 3) := by decide +kernel
theorem dX6_span_26 : decode cX6_span 26 = .ok (.dup, 1) := by decide +kernel
theorem dX6_span_27 : decode cX6_span 27 = .ok (.ldc 150, 2) := by decide +kernel
theorem dX6_span_29 : decode cX6_span 29 = .ok (.invokespecial 78, 3) := by decide +kernel
theorem dX6_span_32 : decode cX6_span 32 = .ok (.athrow, 1) := by decide +kernel
theorem dX6_span_33 : decode cX6_span 33 = .ok (.aload 4, 2) := by decide +kernel
theorem dX6_span_35 : decode cX6_span 35 = .ok (.aload 5, 2) := by decide +kernel
theorem dX6_span_37 : decode cX6_span 37 = .ok (.lconst 0, 1) := by decide +kernel
theorem dX6_span_38 : decode cX6_span 38 = .ok (.lconst 0, 1) := by decide +kernel
theorem dX6_span_39 : decode cX6_span 39 = .ok (.invokevirtual 119, 3) := by decide +kernel
theorem dX6_span_42 : decode cX6_span 42 = .ok (.lstore 6, 2) := by decide +kernel
theorem dX6_span_44 : decode cX6_span 44 = .ok (.iload_n 3, 1) := by decide +kernel
theorem dX6_span_45 : decode cX6_span 45 = .ok (.ifCond .ne 11, 3) := by decide +kernel
theorem dX6_span_48 : decode cX6_span 48 = .ok (.lload 6, 2) := by decide +kernel
theorem dX6_span_50 : decode cX6_span 50 = .ok (.ldc2_w 152, 3) := by decide +kernel
theorem dX6_span_53 : decode cX6_span 53 = .ok (.ldiv, 1) := by decide +kernel
theorem dX6_span_54 : decode cX6_span 54 = .ok (.l2i, 1) := by decide +kernel
theorem dX6_span_55 : decode cX6_span 55 = .ok (.ireturn, 1) := by decide +kernel
theorem dX6_span_56 : decode cX6_span 56 = .ok (.iload_n 3, 1) := by decide +kernel
theorem dX6_span_57 : decode cX6_span 57 = .ok (.iconst 1, 1) := by decide +kernel
theorem dX6_span_58 : decode cX6_span 58 = .ok (.if_icmp .ne 11, 3) := by decide +kernel
theorem dX6_span_61 : decode cX6_span 61 = .ok (.lload 6, 2) := by decide +kernel
theorem dX6_span_63 : decode cX6_span 63 = .ok (.ldc2_w 152, 3) := by decide +kernel
theorem dX6_span_66 : decode cX6_span 66 = .ok (.lrem, 1) := by decide +kernel
theorem dX6_span_67 : decode cX6_span 67 = .ok (.l2i, 1) := by decide +kernel
theorem dX6_span_68 : decode cX6_span 68 = .ok (.ireturn, 1) := by decide +kernel
theorem dX6_span_69 : decode cX6_span 69 = .ok (.aload 5, 2) := by decide +kernel
theorem dX6_span_71 : decode cX6_span 71 = .ok (.invokevirtual 154, 3) := by decide +kernel
theorem dX6_span_74 : decode cX6_span 74 = .ok (.aload 4, 2) := by decide +kernel
theorem dX6_span_76 : decode cX6_span 76 = .ok (.invokevirtual 158, 3) := by decide +kernel
theorem dX6_span_79 : decode cX6_span 79 = .ok (.lload 6, 2) := by decide +kernel
theorem dX6_span_81 : decode cX6_span 81 = .ok (.ladd, 1) := by decide +kernel
theorem dX6_span_82 : decode cX6_span 82 = .ok (.aload 4, 2) := by decide +kernel
theorem dX6_span_84 : decode cX6_span 84 = .ok (.getfield 161, 3) := by decide +kernel
theorem dX6_span_87 : decode cX6_span 87 = .ok (.invokestatic 165, 3) := by decide +kernel
theorem dX6_span_90 : decode cX6_span 90 = .ok (.lsub, 1) := by decide +kernel
theorem dX6_span_91 : decode cX6_span 91 = .ok (.l2i, 1) := by decide +kernel
