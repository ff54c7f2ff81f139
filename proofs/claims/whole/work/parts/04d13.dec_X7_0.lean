theorem dX7_init_0 : decode cX7_init 0 = .ok (.aload_n 0, 1) := by decide +kernel
theorem dX7_init_1 : decode cX7_init 1 = .ok (.invokespecial 1, 3) := by decide +kernel
theorem dX7_init_4 : decode cX7_init 4 = .ok (.aload_n 0, 1) := by decide +kernel
theorem dX7_init_5 : decode cX7_init 5 = .ok (.bipush 8, 2) := by decide +kernel
theorem dX7_init_7 : decode cX7_init 7 = .ok (.newarray .long, 2) := by decide +kernel
theorem dX7_init_9 : decode cX7_init 9 = .ok (.putfield 7, 3) := by decide +kernel
theorem dX7_init_12 : decode cX7_init 12 = .ok (.aload_n 0, 1) := by decide +kernel
theorem dX7_init_13 : decode cX7_init 13 = .ok (.bipush 8, 2) := by decide +kernel
theorem dX7_init_15 : decode cX7_init 15 = .ok (.newarray .long, 2) := by decide +kernel
theorem dX7_init_17 : decode cX7_init 17 = .ok (.putfield 13, 3) := by decide +kernel
theorem dX7_init_20 : decode cX7_init 20 = .ok (.aload_n 0, 1) := by decide +kernel
theorem dX7_init_21 : decode cX7_init 21 = .ok (.iconst 4, 1) := by decide +kernel
theorem dX7_init_22 : decode cX7_init 22 = .ok (.newarray .int, 2) := by decide +kernel
theorem dX7_init_24 : decode cX7_init 24 = .ok (.putfield 16, 3) := by decide +kernel
theorem dX7_init_27 : decode cX7_init 27 = .ok (.aload_n 0, 1) := by decide +kernel
theorem dX7_init_28 : decode cX7_init 28 = .ok (.iconst 4, 1) := by decide +kernel
theorem dX7_init_29 : decode cX7_init 29 = .ok (.newarray .int, 2) := by decide +kernel
theorem dX7_init_31 : decode cX7_init 31 = .ok (.putfield 20, 3) := by decide +kernel
theorem dX7_init_34 : decode cX7_init 34 = .ok (.aload_n 0, 1) := by decide +kernel
theorem dX7_init_35 : decode cX7_init 35 = .ok (.bipush 32, 2) := by decide +kernel
theorem dX7_init_37 : decode cX7_init 37 = .ok (.newarray .long, 2) := by decide +kernel
theorem dX7_init_39 : decode cX7_init 39 = .ok (.putfield 23, 3) := by decide +kernel
theorem dX7_init_42 : decode cX7_init 42 = .ok (.aload_n 0, 1) := by decide +kernel
theorem dX7_init_43 : decode cX7_init 43 = .ok (.bipush 32, 2) := by decide +kernel
theorem dX7_init_45 : decode cX7_init 45 = .ok (.newarray .int, 2) := by decide +kernel
theorem dX7_init_47 : decode cX7_init 47 = .ok (.putfield 26, 3) := by decide +kernel
theorem dX7_init_50 : decode cX7_init 50 = .ok (.aload_n 0, 1) := by decide +kernel
theorem dX7_init_51 : decode cX7_init 51 = .ok (.iconst 4, 1) := by decide +kernel
theorem dX7_init_52 : decode cX7_init 52 = .ok (.newarray .int, 2) := by decide +kernel
theorem dX7_init_54 : decode cX7_init 54 = .ok (.putfield 29, 3) := by decide +kernel
theorem dX7_init_57 : decode cX7_init 57 = .ok (.aload_n 0, 1) := by decide +kernel
theorem dX7_init_58 : decode cX7_init 58 = .ok (.bipush 40, 2) := by decide +kernel
theorem dX7_init_60 : decode cX7_init 60 = .ok (.newarray .int, 2) := by decide +kernel
theorem dX7_init_62 : decode cX7_init 62 = .ok (.putfield 32, 3) := by decide +kernel
theorem dX7_init_65 : decode cX7_init 65 = .ok (.aload_n 0, 1) := by decide +kernel
theorem dX7_init_66 : decode cX7_init 66 = .ok (.bipush 30, 2) := by decide +kernel
theorem dX7_init_68 : decode cX7_init 68 = .ok (.newarray .int, 2) := by decide +kernel
theorem dX7_init_70 : decode cX7_init 70 = .ok (.putfield 35, 3) := by decide +kernel
theorem dX7_init_73 : decode cX7_init 73 = .ok (.aload_n 0, 1) := by decide +kernel
theorem dX7_init_74 : decode cX7_init 74 = .ok (.bipush 40, 2) := by decide +kernel
theorem dX7_init_76 : decode cX7_init 76 = .ok (.newarray .int, 2) := by decide +kernel
theorem dX7_init_78 : decode cX7_init 78 = .ok (.putfield 38, 3) := by decide +kernel
theorem dX7_init_81 : decode cX7_init 81 = .ok (.return_, 1) := by decide +kernel
theorem dX7_thrown_0 : decode cX7_thrown 0 = .ok (.aload_n 0, 1) := by decide +kernel
theorem dX7_thrown_1 : decode cX7_thrown 1 = .ok (.getfield 41, 3) := by decide +kernel
theorem dX7_thrown_4 : decode cX7_thrown 4 = .ok (.ireturn, 1) := by decide +kernel
theorem dX7_in_0 : decode cX7_in 0 = .ok (.lload_n 0, 1) := by decide +kernel
theorem dX7_in_1 : decode cX7_in 1 = .ok (.lload_n 2, 1) := by decide +kernel
theorem dX7_in_2 : decode cX7_in 2 = .ok (.lcmp, 1) := by decide +kernel
theorem dX7_in_3 : decode cX7_in 3 = .ok (.ifCond .lt 14, 3) := by decide +kernel
theorem dX7_in_6 : decode cX7_in 6 = .ok (.lload_n 0, 1) := by decide +kernel
theorem dX7_in_7 : decode cX7_in 7 = .ok (.lload 4, 2) := by decide +kernel
theorem dX7_in_9 : decode cX7_in 9 = .ok (.lcmp, 1) := by decide +kernel
theorem dX7_in_10 : decode cX7_in 10 = .ok (.ifCond .gt 7, 3) := by decide +kernel
theorem dX7_in_13 : decode cX7_in 13 = .ok (.iconst 1, 1) := by decide +kernel
theorem dX7_in_14 : decode cX7_in 14 = .ok (.goto 4, 3) := by decide +kernel
theorem dX7_in_17 : decode cX7_in 17 = .ok (.iconst 0, 1) := by decide +kernel
theorem dX7_in_18 : decode cX7_in 18 = .ok (.ireturn, 1) := by decide +kernel
theorem dX7_floor_0 : decode cX7_floor 0 = .ok (.lload_n 0, 1) := by decide +kernel
theorem dX7_floor_1 : decode cX7_floor 1 = .ok (.lload_n 2, 1) := by decide +kernel
theorem dX7_floor_2 : decode cX7_floor 2 = .ok (.lrem, 1) := by decide +kernel
theorem dX7_floor_3 : decode cX7_floor 3 = .ok (.lconst 0, 1) := by decide +kernel
theorem dX7_floor_4 : decode cX7_floor 4 = .ok (.lcmp, 1) := by decide +kernel
theorem dX7_floor_5 : decode cX7_floor 5 = .ok (.ifCond .ge 11, 3) := by decide +kernel
theorem dX7_floor_8 : decode cX7_floor 8 = .ok (.lload_n 0, 1) := by decide +kernel
theorem dX7_floor_9 : decode cX7_floor 9 = .ok (.lload_n 2, 1) := by decide +kernel
theorem dX7_floor_10 : decode cX7_floor 10 = .ok (.ldiv, 1) := by decide +kernel
theorem dX7_floor_11 : decode cX7_floor 11 = .ok (.lconst 1, 1) := by decide +kernel
theorem dX7_floor_12 : decode cX7_floor 12 = .ok (.lsub, 1) := by decide +kernel
theorem dX7_floor_13 : decode cX7_floor 13 = .ok (.goto 6, 3) := by decide +kernel
theorem dX7_floor_16 : decode cX7_floor 16 = .ok (.lload_n 0, 1) := by decide +kernel
theorem dX7_floor_17 : decode cX7_floor 17 = .ok (.lload_n 2, 1) := by decide +kernel
theorem dX7_floor_18 : decode cX7_floor 18 = .ok (.ldiv, 1) := by decide +kernel
theorem dX7_floor_19 : decode cX7_floor 19 = .ok (.lreturn, 1) := by decide +kernel
theorem dX7_rest_0 : decode cX7_rest 0 = .ok (.lload_n 0, 1) := by decide +kernel
theorem dX7_rest_1 : decode cX7_rest 1 = .ok (.lload_n 2, 1) := by decide +kernel
theorem dX7_rest_2 : decode cX7_rest 2 = .ok (.lrem, 1) := by decide +kernel
theorem dX7_rest_3 : decode cX7_rest 3 = .ok (.lload_n 2, 1) := by decide +kernel
theorem dX7_rest_4 : decode cX7_rest 4 = .ok (.ladd, 1) := by decide +kernel
theorem dX7_rest_5 : decode cX7_rest 5 = .ok (.lload_n 2, 1) := by decide +kernel
theorem dX7_rest_6 : decode cX7_rest 6 = .ok (.lrem, 1) := by decide +kernel
theorem dX7_rest_7 : decode cX7_rest 7 = .ok (.lreturn, 1) := by decide +kernel
theorem dX7_leap_0 : decode cX7_leap 0 = .ok (.lload_n 0, 1) := by decide +kernel
theorem dX7_leap_1 : decode cX7_leap 1 = .ok (.ldc2_w 45, 3) := by decide +kernel
theorem dX7_leap_4 : decode cX7_leap 4 = .ok (.invokestatic 47, 3) := by decide +kernel
theorem dX7_leap_7 : decode cX7_leap 7 = .ok (.lconst 0, 1) := by decide +kernel
theorem dX7_leap_8 : decode cX7_leap 8 = .ok (.lcmp, 1) := by decide +kernel
theorem dX7_leap_9 : decode cX7_leap 9 = .ok (.ifCond .ne 15, 3) := by decide +kernel
theorem dX7_leap_12 : decode cX7_leap 12 = .ok (.lload_n 0, 1) := by decide +kernel
theorem dX7_leap_13 : decode cX7_leap 13 = .ok (.ldc2_w 51, 3) := by decide +kernel
theorem dX7_leap_16 : decode cX7_leap 16 = .ok (.invokestatic 47, 3) := by decide +kernel
theorem dX7_leap_19 : decode cX7_leap 19 = .ok (.lconst 0, 1) := by decide +kernel
theorem dX7_leap_20 : decode cX7_leap 20 = .ok (.lcmp, 1) := by decide +kernel
theorem dX7_leap_21 : decode cX7_leap 21 = .ok (.ifCond .ne 15, 3) := by decide +kernel
theorem dX7_leap_24 : decode cX7_leap 24 = .ok (.lload_n 0, 1) := by decide +kernel
theorem dX7_leap_25 : decode cX7_leap 25 = .ok (.ldc2_w 53, 3) := by decide +kernel
theorem dX7_leap_28 : decode cX7_leap 28 = .ok (.invokestatic 47, 3) := by decide +kernel
theorem dX7_leap_31 : decode cX7_leap 31 = .ok (.lconst 0, 1) := by decide +kernel
theorem dX7_leap_32 : decode cX7_leap 32 = .ok (.lcmp, 1) := by decide +kernel
theorem dX7_leap_33 : decode cX7_leap 33 = .ok (.ifCond .ne 7, 3) := by decide +kernel
theorem dX7_leap_36 : decode cX7_leap 36 = .ok (.iconst 1, 1) := by decide +kernel
theorem dX7_leap_37 : decode cX7_leap 37 = .ok (.goto 4, 3) := by decide +kernel
theorem dX7_leap_40 : decode cX7_leap 40 = .ok (.iconst 0, 1) := by decide +kernel
theorem dX7_leap_41 : decode cX7_leap 41 = .ok (.ireturn, 1) := by decide +kernel
theorem dX7_length_0 : decode cX7_length 0 = .ok (.iload_n 2, 1) := by decide +kernel
theorem dX7_length_1 : decode cX7_length 1 = .ok (.iconst 2, 1) := by decide +kernel
theorem dX7_length_2 : decode cX7_length 2 = .ok (.if_icmp .ne 20, 3) := by decide +kernel
theorem dX7_length_5 : decode cX7_length 5 = .ok (.lload_n 0, 1) := by decide +kernel
theorem dX7_length_6 : decode cX7_length 6 = .ok (.invokestatic 55, 3) := by decide +kernel
theorem dX7_length_9 : decode cX7_length 9 = .ok (.ifCond .eq 8, 3) := by decide +kernel
theorem dX7_length_12 : decode cX7_length 12 = .ok (.bipush 29, 2) := by decide +kernel
theorem dX7_length_14 : decode cX7_length 14 = .ok (.goto 38, 3) := by decide +kernel
theorem dX7_length_17 : decode cX7_length 17 = .ok (.bipush 28, 2) := by decide +kernel
theorem dX7_length_19 : decode cX7_length 19 = .ok (.goto 33, 3) := by decide +kernel
theorem dX7_length_22 : decode cX7_length 22 = .ok (.iload_n 2, 1) := by decide +kernel
theorem dX7_length_23 : decode cX7_length 23 = .ok (.iconst 4, 1) := by decide +kernel
theorem dX7_length_24 : decode cX7_length 24 = .ok (.if_icmp .eq 21, 3) := by decide +kernel
theorem dX7_length_27 : decode cX7_length 27 = .ok (.iload_n 2, 1) := by decide +kernel
theorem dX7_length_28 : decode cX7_length 28 = .ok (.bipush 6, 2) := by decide +kernel
theorem dX7_length_30 : decode cX7_length 30 = .ok (.if_icmp .eq 15, 3) := by decide +kernel
theorem dX7_length_33 : decode cX7_length 33 = .ok (.iload_n 2, 1) := by decide +kernel
theorem dX7_length_34 : decode cX7_length 34 = .ok (.bipush 9, 2) := by decide +kernel
theorem dX7_length_36 : decode cX7_length 36 = .ok (.if_icmp .eq 9, 3) := by decide +kernel
theorem dX7_length_39 : decode cX7_length 39 = .ok (.iload_n 2, 1) := by decide +kernel
theorem dX7_length_40 : decode cX7_length 40 = .ok (.bipush 11, 2) := by decide +kernel
theorem dX7_length_42 : decode cX7_length 42 = .ok (.if_icmp .ne 8, 3) := by decide +kernel
theorem dX7_length_45 : decode cX7_length 45 = .ok (.bipush 30, 2) := by decide +kernel
theorem dX7_length_47 : decode cX7_length 47 = .ok (.goto 5, 3) := by decide +kernel
theorem dX7_length_50 : decode cX7_length 50 = .ok (.bipush 31, 2) := by decide +kernel
theorem dX7_length_52 : decode cX7_length 52 = .ok (.ireturn, 1) := by decide +kernel
theorem dX7_dayOf_0 : decode cX7_dayOf 0 = .ok (.iload_n 2, 1) := by decide +kernel
theorem dX7_dayOf_1 : decode cX7_dayOf 1 = .ok (.iconst 3, 1) := by decide +kernel
theorem dX7_dayOf_2 : decode cX7_dayOf 2 = .ok (.if_icmp .ge 9, 3) := by decide +kernel
theorem dX7_dayOf_5 : decode cX7_dayOf 5 = .ok (.lload_n 0, 1) := by decide +kernel
theorem dX7_dayOf_6 : decode cX7_dayOf 6 = .ok (.lconst 1, 1) := by decide +kernel
theorem dX7_dayOf_7 : decode cX7_dayOf 7 = .ok (.lsub, 1) := by decide +kernel
theorem dX7_dayOf_8 : decode cX7_dayOf 8 = .ok (.goto 4, 3) := by decide +kernel
theorem dX7_dayOf_11 : decode cX7_dayOf 11 = .ok (.lload_n 0, 1) := by decide +kernel
theorem dX7_dayOf_12 : decode cX7_dayOf 12 = .ok (.lstore 4, 2) := by decide +kernel
theorem dX7_dayOf_14 : decode cX7_dayOf 14 = .ok (.lload 4, 2) := by decide +kernel
theorem dX7_dayOf_16 : decode cX7_dayOf 16 = .ok (.ldc2_w 53, 3) := by decide +kernel
theorem dX7_dayOf_19 : decode cX7_dayOf 19 = .ok (.invokestatic 59, 3) := by decide +kernel
theorem dX7_dayOf_22 : decode cX7_dayOf 22 = .ok (.lstore 6, 2) := by decide +kernel
theorem dX7_dayOf_24 : decode cX7_dayOf 24 = .ok (.lload 4, 2) := by decide +kernel
theorem dX7_dayOf_26 : decode cX7_dayOf 26 = .ok (.ldc2_w 53, 3) := by decide +kernel
theorem dX7_dayOf_29 : decode cX7_dayOf 29 = .ok (.lload 6, 2) := by decide +kernel
theorem dX7_dayOf_31 : decode cX7_dayOf 31 = .ok (.lmul, 1) := by decide +kernel
theorem dX7_dayOf_32 : decode cX7_dayOf 32 = .ok (.lsub, 1) := by decide +kernel
theorem dX7_dayOf_33 : decode cX7_dayOf 33 = .ok (.lstore 8, 2) := by decide +kernel
theorem dX7_dayOf_35 : decode cX7_dayOf 35 = .ok (.ldc2_w 62, 3) := by decide +kernel
theorem dX7_dayOf_38 : decode cX7_dayOf 38 = .ok (.iload_n 2, 1) := by decide +kernel
theorem dX7_dayOf_39 : decode cX7_dayOf 39 = .ok (.iconst 3, 1) := by decide +kernel
theorem dX7_dayOf_40 : decode cX7_dayOf 40 = .ok (.if_icmp .ge 10, 3) := by decide +kernel
theorem dX7_dayOf_43 : decode cX7_dayOf 43 = .ok (.iload_n 2, 1) := by decide +kernel
theorem dX7_dayOf_44 : decode cX7_dayOf 44 = .ok (.bipush 9, 2) := by decide +kernel
theorem dX7_dayOf_46 : decode cX7_dayOf 46 = .ok (.iadd, 1) := by decide +kernel
theorem dX7_dayOf_47 : decode cX7_dayOf 47 = .ok (.goto 6, 3) := by decide +kernel
theorem dX7_dayOf_50 : decode cX7_dayOf 50 = .ok (.iload_n 2, 1) := by decide +kernel
theorem dX7_dayOf_51 : decode cX7_dayOf 51 = .ok (.iconst 3, 1) := by decide +kernel
theorem dX7_dayOf_52 : decode cX7_dayOf 52 = .ok (.isub, 1) := by decide +kernel
theorem dX7_dayOf_53 : decode cX7_dayOf 53 = .ok (.i2l, 1) := by decide +kernel
theorem dX7_dayOf_54 : decode cX7_dayOf 54 = .ok (.lmul, 1) := by decide +kernel
theorem dX7_dayOf_55 : decode cX7_dayOf 55 = .ok (.ldc2_w 64, 3) := by decide +kernel
theorem dX7_dayOf_58 : decode cX7_dayOf 58 = .ok (.ladd, 1) := by decide +kernel
theorem dX7_dayOf_59 : decode cX7_dayOf 59 = .ok (.ldc2_w 66, 3) := by decide +kernel
theorem dX7_dayOf_62 : decode cX7_dayOf 62 = .ok (.ldiv, 1) := by decide +kernel
theorem dX7_dayOf_63 : decode cX7_dayOf 63 = .ok (.iload_n 3, 1) := by decide +kernel
theorem dX7_dayOf_64 : decode cX7_dayOf 64 = .ok (.i2l, 1) := by decide +kernel
theorem dX7_dayOf_65 : decode cX7_dayOf 65 = .ok (.ladd, 1) := by decide +kernel
theorem dX7_dayOf_66 : decode cX7_dayOf 66 = .ok (.lconst 1, 1) := by decide +kernel
theorem dX7_dayOf_67 : decode cX7_dayOf 67 = .ok (.lsub, 1) := by decide +kernel
theorem dX7_dayOf_68 : decode cX7_dayOf 68 = .ok (.lstore 10, 2) := by decide +kernel
theorem dX7_dayOf_70 : decode cX7_dayOf 70 = .ok (.ldc2_w 68, 3) := by decide +kernel
theorem dX7_dayOf_73 : decode cX7_dayOf 73 = .ok (.lload 6, 2) := by decide +kernel
theorem dX7_dayOf_75 : decode cX7_dayOf 75 = .ok (.lmul, 1) := by decide +kernel
theorem dX7_dayOf_76 : decode cX7_dayOf 76 = .ok (.ldc2_w 70, 3) := by decide +kernel
theorem dX7_dayOf_79 : decode cX7_dayOf 79 = .ok (.lload 8, 2) := by decide +kernel
theorem dX7_dayOf_81 : decode cX7_dayOf 81 = .ok (.lmul, 1) := by decide +kernel
theorem dX7_dayOf_82 : decode cX7_dayOf 82 = .ok (.ladd, 1) := by decide +kernel
theorem dX7_dayOf_83 : decode cX7_dayOf 83 = .ok (.lload 8, 2) := by decide +kernel
theorem dX7_dayOf_85 : decode cX7_dayOf 85 = .ok (.ldc2_w 45, 3) := by decide +kernel
theorem dX7_dayOf_88 : decode cX7_dayOf 88 = .ok (.ldiv, 1) := by decide +kernel
theorem dX7_dayOf_89 : decode cX7_dayOf 89 = .ok (.ladd, 1) := by decide +kernel
theorem dX7_dayOf_90 : decode cX7_dayOf 90 = .ok (.lload 8, 2) := by decide +kernel
theorem dX7_dayOf_92 : decode cX7_dayOf 92 = .ok (.ldc2_w 51, 3) := by decide +kernel
theorem dX7_dayOf_95 : decode cX7_dayOf 95 = .ok (.ldiv, 1) := by decide +kernel
theorem dX7_dayOf_96 : decode cX7_dayOf 96 = .ok (.lsub, 1) := by decide +kernel
theorem dX7_dayOf_97 : decode cX7_dayOf 97 = .ok (.lload 10, 2) := by decide +kernel
theorem dX7_dayOf_99 : decode cX7_dayOf 99 = .ok (.ladd, 1) := by decide +kernel
theorem dX7_dayOf_100 : decode cX7_dayOf 100 = .ok (.ldc2_w 72, 3) := by decide +kernel
theorem dX7_dayOf_103 : decode cX7_dayOf 103 = .ok (.lsub, 1) := by decide +kernel
theorem dX7_dayOf_104 : decode cX7_dayOf 104 = .ok (.lreturn, 1) := by decide +kernel
theorem dX7_tell_0 : decode cX7_tell 0 = .ok (.lload_n 1, 1) := by decide +kernel
theorem dX7_tell_1 : decode cX7_tell 1 = .ok (.ldc2_w 72, 3) := by decide +kernel
theorem dX7_tell_4 : decode cX7_tell 4 = .ok (.ladd, 1) := by decide +kernel
theorem dX7_tell_5 : decode cX7_tell 5 = .ok (.lstore_n 3, 1) := by decide +kernel
theorem dX7_tell_6 : decode cX7_tell 6 = .ok (.lload_n 3, 1) := by decide +kernel
theorem dX7_tell_7 : decode cX7_tell 7 = .ok (.ldc2_w 68, 3) := by decide +kernel
theorem dX7_tell_10 : decode cX7_tell 10 = .ok (.invokestatic 59, 3) := by decide +kernel
theorem dX7_tell_13 : decode cX7_tell 13 = .ok (.lstore 5, 2) := by decide +kernel
theorem dX7_tell_15 : decode cX7_tell 15 = .ok (.lload_n 3, 1) := by decide +kernel
theorem dX7_tell_16 : decode cX7_tell 16 = .ok (.ldc2_w 68, 3) := by decide +kernel
theorem dX7_tell_19 : decode cX7_tell 19 = .ok (.lload 5, 2) := by decide +kernel
theorem dX7_tell_21 : decode cX7_tell 21 = .ok (.lmul, 1) := by decide +kernel
theorem dX7_tell_22 : decode cX7_tell 22 = .ok (.lsub, 1) := by decide +kernel
theorem dX7_tell_23 : decode cX7_tell 23 = .ok (.lstore 7, 2) := by decide +kernel
theorem dX7_tell_25 : decode cX7_tell 25 = .ok (.lload 7, 2) := by decide +kernel
theorem dX7_tell_27 : decode cX7_tell 27 = .ok (.lload 7, 2) := by decide +kernel
theorem dX7_tell_29 : decode cX7_tell 29 = .ok (.ldc2_w 74, 3) := by decide +kernel
theorem dX7_tell_32 : decode cX7_tell 32 = .ok (.ldiv, 1) := by decide +kernel
theorem dX7_tell_33 : decode cX7_tell 33 = .ok (.lsub, 1) := by decide +kernel
theorem dX7_tell_34 : decode cX7_tell 34 = .ok (.lload 7, 2) := by decide +kernel
theorem dX7_tell_36 : decode cX7_tell 36 = .ok (.ldc2_w 76, 3) := by decide +kernel
theorem dX7_tell_39 : decode cX7_tell 39 = .ok (.ldiv, 1) := by decide +kernel
theorem dX7_tell_40 : decode cX7_tell 40 = .ok (.ladd, 1) := by decide +kernel
theorem dX7_tell_41 : decode cX7_tell 41 = .ok (.lload 7, 2) := by decide +kernel
theorem dX7_tell_43 : decode cX7_tell 43 = .ok (.ldc2_w 78, 3) := by decide +kernel
theorem dX7_tell_46 : decode cX7_tell 46 = .ok (.ldiv, 1) := by decide +kernel
theorem dX7_tell_47 : decode cX7_tell 47 = .ok (.lsub, 1) := by decide +kernel
theorem dX7_tell_48 : decode cX7_tell 48 = .ok (.ldc2_w 70, 3) := by decide +kernel
theorem dX7_tell_51 : decode cX7_tell 51 = .ok (.ldiv, 1) := by decide +kernel
theorem dX7_tell_52 : decode cX7_tell 52 = .ok (.lstore 9, 2) := by decide +kernel
theorem dX7_tell_54 : decode cX7_tell 54 = .ok (.lload 7, 2) := by decide +kernel
theorem dX7_tell_56 : decode cX7_tell 56 = .ok (.ldc2_w 70, 3) := by decide +kernel
theorem dX7_tell_59 : decode cX7_tell 59 = .ok (.lload 9, 2) := by decide +kernel
theorem dX7_tell_61 : decode cX7_tell 61 = .ok (.lmul, 1) := by decide +kernel
theorem dX7_tell_62 : decode cX7_tell 62 = .ok (.lload 9, 2) := by decide +kernel
theorem dX7_tell_64 : decode cX7_tell 64 = .ok (.ldc2_w 45, 3) := by decide +kernel
theorem dX7_tell_67 : decode cX7_tell 67 = .ok (.ldiv, 1) := by decide +kernel
theorem dX7_tell_68 : decode cX7_tell 68 = .ok (.ladd, 1) := by decide +kernel
theorem dX7_tell_69 : decode cX7_tell 69 = .ok (.lload 9, 2) := by decide +kernel
theorem dX7_tell_71 : decode cX7_tell 71 = .ok (.ldc2_w 51, 3) := by decide +kernel
theorem dX7_tell_74 : decode cX7_tell 74 = .ok (.ldiv, 1) := by decide +kernel
theorem dX7_tell_75 : decode cX7_tell 75 = .ok (.lsub, 1) := by decide +kernel
theorem dX7_tell_76 : decode cX7_tell 76 = .ok (.lsub, 1) := by decide +kernel
theorem dX7_tell_77 : decode cX7_tell 77 = .ok (.lstore 11, 2) := by decide +kernel
theorem dX7_tell_79 : decode cX7_tell 79 = .ok (.ldc2_w 66, 3) := by decide +kernel
theorem dX7_tell_82 : decode cX7_tell 82 = .ok (.lload 11, 2) := by decide +kernel
theorem dX7_tell_84 : decode cX7_tell 84 = .ok (.lmul, 1) := by decide +kernel
theorem dX7_tell_85 : decode cX7_tell 85 = .ok (.ldc2_w 64, 3) := by decide +kernel
theorem dX7_tell_88 : decode cX7_tell 88 = .ok (.ladd, 1) := by decide +kernel
theorem dX7_tell_89 : decode cX7_tell 89 = .ok (.ldc2_w 62, 3) := by decide +kernel
theorem dX7_tell_92 : decode cX7_tell 92 = .ok (.ldiv, 1) := by decide +kernel
theorem dX7_tell_93 : decode cX7_tell 93 = .ok (.l2i, 1) := by decide +kernel
theorem dX7_tell_94 : decode cX7_tell 94 = .ok (.istore 13, 2) := by decide +kernel
theorem dX7_tell_96 : decode cX7_tell 96 = .ok (.aload_n 0, 1) := by decide +kernel
theorem dX7_tell_97 : decode cX7_tell 97 = .ok (.lload 11, 2) := by decide +kernel
theorem dX7_tell_99 : decode cX7_tell 99 = .ok (.ldc2_w 62, 3) := by decide +kernel
theorem dX7_tell_102 : decode cX7_tell 102 = .ok (.iload 13, 2) := by decide +kernel
theorem dX7_tell_104 : decode cX7_tell 104 = .ok (.i2l, 1) := by decide +kernel
theorem dX7_tell_105 : decode cX7_tell 105 = .ok (.lmul, 1) := by decide +kernel
theorem dX7_tell_106 : decode cX7_tell 106 = .ok (.ldc2_w 64, 3) := by decide +kernel
theorem dX7_tell_109 : decode cX7_tell 109 = .ok (.ladd, 1) := by decide +kernel
theorem dX7_tell_110 : decode cX7_tell 110 = .ok (.ldc2_w 66, 3) := by decide +kernel
theorem dX7_tell_113 : decode cX7_tell 113 = .ok (.ldiv, 1) := by decide +kernel
theorem dX7_tell_114 : decode cX7_tell 114 = .ok (.lsub, 1) := by decide +kernel
theorem dX7_tell_115 : decode cX7_tell 115 = .ok (.l2i, 1) := by decide +kernel
theorem dX7_tell_116 : decode cX7_tell 116 = .ok (.iconst 1, 1) := by decide +kernel
theorem dX7_tell_117 : decode cX7_tell 117 = .ok (.iadd, 1) := by decide +kernel
theorem dX7_tell_118 : decode cX7_tell 118 = .ok (.putfield 80, 3) := by decide +kernel
theorem dX7_tell_121 : decode cX7_tell 121 = .ok (.aload_n 0, 1) := by decide +kernel
theorem dX7_tell_122 : decode cX7_tell 122 = .ok (.iload 13, 2) := by decide +kernel
theorem dX7_tell_124 : decode cX7_tell 124 = .ok (.bipush 10, 2) := by decide +kernel
theorem dX7_tell_126 : decode cX7_tell 126 = .ok (.if_icmp .ge 10, 3) := by decide +kernel
theorem dX7_tell_129 : decode cX7_tell 129 = .ok (.iload 13, 2) := by decide +kernel
theorem dX7_tell_131 : decode cX7_tell 131 = .ok (.iconst 3, 1) := by decide +kernel
theorem dX7_tell_132 : decode cX7_tell 132 = .ok (.iadd, 1) := by decide +kernel
theorem dX7_tell_133 : decode cX7_tell 133 = .ok (.goto 8, 3) := by decide +kernel
theorem dX7_tell_136 : decode cX7_tell 136 = .ok (.iload 13, 2) := by decide +kernel
theorem dX7_tell_138 : decode cX7_tell 138 = .ok (.bipush 9, 2) := by decide +kernel
theorem dX7_tell_140 : decode cX7_tell 140 = .ok (.isub, 1) := by decide +kernel
theorem dX7_tell_141 : decode cX7_tell 141 = .ok (.putfield 83, 3) := by decide +kernel
theorem dX7_tell_144 : decode cX7_tell 144 = .ok (.aload_n 0, 1) := by decide +kernel
theorem dX7_tell_145 : decode cX7_tell 145 = .ok (.ldc2_w 53, 3) := by decide +kernel
theorem dX7_tell_148 : decode cX7_tell 148 = .ok (.lload 5, 2) := by decide +kernel
theorem dX7_tell_150 : decode cX7_tell 150 = .ok (.lmul, 1) := by decide +kernel
theorem dX7_tell_151 : decode cX7_tell 151 = .ok (.lload 9, 2) := by decide +kernel
theorem dX7_tell_153 : decode cX7_tell 153 = .ok (.ladd, 1) := by decide +kernel
theorem dX7_tell_154 : decode cX7_tell 154 = .ok (.aload_n 0, 1) := by decide +kernel
theorem dX7_tell_155 : decode cX7_tell 155 = .ok (.getfield 83, 3) := by decide +kernel
theorem dX7_tell_158 : decode cX7_tell 158 = .ok (.iconst 3, 1) := by decide +kernel
theorem dX7_tell_159 : decode cX7_tell 159 = .ok (.if_icmp .ge 7, 3) := by decide +kernel
theorem dX7_tell_162 : decode cX7_tell 162 = .ok (.lconst 1, 1) := by decide +kernel
theorem dX7_tell_163 : decode cX7_tell 163 = .ok (.goto 4, 3) := by decide +kernel
theorem dX7_tell_166 : decode cX7_tell 166 = .ok (.lconst 0, 1) := by decide +kernel
theorem dX7_tell_167 : decode cX7_tell 167 = .ok (.ladd, 1) := by decide +kernel
theorem dX7_tell_168 : decode cX7_tell 168 = .ok (.putfield 86, 3) := by decide +kernel
theorem dX7_tell_171 : decode cX7_tell 171 = .ok (.return_, 1) := by decide +kernel
theorem dX7_weekOf_0 : decode cX7_weekOf 0 = .ok (.lload_n 0, 1) := by decide +kernel
theorem dX7_weekOf_1 : decode cX7_weekOf 1 = .ok (.ldc2_w 90, 3) := by decide +kernel
theorem dX7_weekOf_4 : decode cX7_weekOf 4 = .ok (.ladd, 1) := by decide +kernel
theorem dX7_weekOf_5 : decode cX7_weekOf 5 = .ok (.ldc2_w 92, 3) := by decide +kernel
theorem dX7_weekOf_8 : decode cX7_weekOf 8 = .ok (.invokestatic 47, 3) := by decide +kernel
theorem dX7_weekOf_11 : decode cX7_weekOf 11 = .ok (.l2i, 1) := by decide +kernel
theorem dX7_weekOf_12 : decode cX7_weekOf 12 = .ok (.iconst 1, 1) := by decide +kernel
theorem dX7_weekOf_13 : decode cX7_weekOf 13 = .ok (.iadd, 1) := by decide +kernel
theorem dX7_weekOf_14 : decode cX7_weekOf 14 = .ok (.ireturn, 1) := by decide +kernel
theorem dX7_within_0 : decode cX7_within 0 = .ok (.lload_n 0, 1) := by decide +kernel
theorem dX7_within_1 : decode cX7_within 1 = .ok (.ldc2_w 94, 3) := by decide +kernel
theorem dX7_within_4 : decode cX7_within 4 = .ok (.iconst 1, 1) := by decide +kernel
