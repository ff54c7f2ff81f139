theorem dX2_init_0 : decode cX2_init 0 = .ok (.aload_n 0, 1) := by decide +kernel
theorem dX2_init_1 : decode cX2_init 1 = .ok (.invokespecial 3, 3) := by decide +kernel
theorem dX2_init_4 : decode cX2_init 4 = .ok (.aload_n 0, 1) := by decide +kernel
theorem dX2_init_5 : decode cX2_init 5 = .ok (.bipush 30, 2) := by decide +kernel
theorem dX2_init_7 : decode cX2_init 7 = .ok (.newarray .char, 2) := by decide +kernel
theorem dX2_init_9 : decode cX2_init 9 = .ok (.putfield 9, 3) := by decide +kernel
theorem dX2_init_12 : decode cX2_init 12 = .ok (.return_, 1) := by decide +kernel
theorem dX2_characterAt_0 : decode cX2_characterAt 0 = .ok (.iload_n 1, 1) := by decide +kernel
theorem dX2_characterAt_1 : decode cX2_characterAt 1 = .ok (.ifCond .lt 17, 3) := by decide +kernel
theorem dX2_characterAt_4 : decode cX2_characterAt 4 = .ok (.iload_n 1, 1) := by decide +kernel
theorem dX2_characterAt_5 : decode cX2_characterAt 5 = .ok (.aload_n 0, 1) := by decide +kernel
theorem dX2_characterAt_6 : decode cX2_characterAt 6 = .ok (.getfield 15, 3) := by decide +kernel
theorem dX2_characterAt_9 : decode cX2_characterAt 9 = .ok (.if_icmp .ge 9, 3) := by decide +kernel
theorem dX2_characterAt_12 : decode cX2_characterAt 12 = .ok (.iload_n 1, 1) := by decide +kernel
theorem dX2_characterAt_13 : decode cX2_characterAt 13 = .ok (.bipush 30, 2) := by decide +kernel
theorem dX2_characterAt_15 : decode cX2_characterAt 15 = .ok (.if_icmp .lt 5, 3) := by decide +kernel
theorem dX2_characterAt_18 : decode cX2_characterAt 18 = .ok (.iconst (-1), 1) := by decide +kernel
theorem dX2_characterAt_19 : decode cX2_characterAt 19 = .ok (.ireturn, 1) := by decide +kernel
theorem dX2_characterAt_20 : decode cX2_characterAt 20 = .ok (.aload_n 0, 1) := by decide +kernel
theorem dX2_characterAt_21 : decode cX2_characterAt 21 = .ok (.getfield 9, 3) := by decide +kernel
theorem dX2_characterAt_24 : decode cX2_characterAt 24 = .ok (.iload_n 1, 1) := by decide +kernel
theorem dX2_characterAt_25 : decode cX2_characterAt 25 = .ok (.caload, 1) := by decide +kernel
theorem dX2_characterAt_26 : decode cX2_characterAt 26 = .ok (.ireturn, 1) := by decide +kernel
theorem dX2_write_0 : decode cX2_write 0 = .ok (.aload_n 0, 1) := by decide +kernel
theorem dX2_write_1 : decode cX2_write 1 = .ok (.iconst 0, 1) := by decide +kernel
theorem dX2_write_2 : decode cX2_write 2 = .ok (.putfield 15, 3) := by decide +kernel
theorem dX2_write_5 : decode cX2_write 5 = .ok (.aload_n 1, 1) := by decide +kernel
theorem dX2_write_6 : decode cX2_write 6 = .ok (.getfield 19, 3) := by decide +kernel
theorem dX2_write_9 : decode cX2_write 9 = .ok (.ifCond .ge 9, 3) := by decide +kernel
theorem dX2_write_12 : decode cX2_write 12 = .ok (.aload_n 0, 1) := by decide +kernel
theorem dX2_write_13 : decode cX2_write 13 = .ok (.bipush 45, 2) := by decide +kernel
theorem dX2_write_15 : decode cX2_write 15 = .ok (.invokevirtual 24, 3) := by decide +kernel
theorem dX2_write_18 : decode cX2_write 18 = .ok (.aload_n 0, 1) := by decide +kernel
theorem dX2_write_19 : decode cX2_write 19 = .ok (.aload_n 1, 1) := by decide +kernel
theorem dX2_write_20 : decode cX2_write 20 = .ok (.getfield 19, 3) := by decide +kernel
theorem dX2_write_23 : decode cX2_write 23 = .ok (.invokestatic 28, 3) := by decide +kernel
theorem dX2_write_26 : decode cX2_write 26 = .ok (.i2l, 1) := by decide +kernel
theorem dX2_write_27 : decode cX2_write 27 = .ok (.iconst 4, 1) := by decide +kernel
theorem dX2_write_28 : decode cX2_write 28 = .ok (.invokevirtual 34, 3) := by decide +kernel
theorem dX2_write_31 : decode cX2_write 31 = .ok (.aload_n 0, 1) := by decide +kernel
theorem dX2_write_32 : decode cX2_write 32 = .ok (.bipush 45, 2) := by decide +kernel
theorem dX2_write_34 : decode cX2_write 34 = .ok (.invokevirtual 24, 3) := by decide +kernel
theorem dX2_write_37 : decode cX2_write 37 = .ok (.aload_n 0, 1) := by decide +kernel
theorem dX2_write_38 : decode cX2_write 38 = .ok (.aload_n 1, 1) := by decide +kernel
theorem dX2_write_39 : decode cX2_write 39 = .ok (.getfield 38, 3) := by decide +kernel
theorem dX2_write_42 : decode cX2_write 42 = .ok (.i2l, 1) := by decide +kernel
theorem dX2_write_43 : decode cX2_write 43 = .ok (.iconst 2, 1) := by decide +kernel
theorem dX2_write_44 : decode cX2_write 44 = .ok (.invokevirtual 34, 3) := by decide +kernel
theorem dX2_write_47 : decode cX2_write 47 = .ok (.aload_n 0, 1) := by decide +kernel
theorem dX2_write_48 : decode cX2_write 48 = .ok (.bipush 45, 2) := by decide +kernel
theorem dX2_write_50 : decode cX2_write 50 = .ok (.invokevirtual 24, 3) := by decide +kernel
theorem dX2_write_53 : decode cX2_write 53 = .ok (.aload_n 0, 1) := by decide +kernel
theorem dX2_write_54 : decode cX2_write 54 = .ok (.aload_n 1, 1) := by decide +kernel
theorem dX2_write_55 : decode cX2_write 55 = .ok (.getfield 41, 3) := by decide +kernel
theorem dX2_write_58 : decode cX2_write 58 = .ok (.i2l, 1) := by decide +kernel
theorem dX2_write_59 : decode cX2_write 59 = .ok (.iconst 2, 1) := by decide +kernel
theorem dX2_write_60 : decode cX2_write 60 = .ok (.invokevirtual 34, 3) := by decide +kernel
theorem dX2_write_63 : decode cX2_write 63 = .ok (.aload_n 0, 1) := by decide +kernel
theorem dX2_write_64 : decode cX2_write 64 = .ok (.bipush 84, 2) := by decide +kernel
theorem dX2_write_66 : decode cX2_write 66 = .ok (.invokevirtual 24, 3) := by decide +kernel
theorem dX2_write_69 : decode cX2_write 69 = .ok (.aload_n 0, 1) := by decide +kernel
theorem dX2_write_70 : decode cX2_write 70 = .ok (.aload_n 1, 1) := by decide +kernel
theorem dX2_write_71 : decode cX2_write 71 = .ok (.bipush 6, 2) := by decide +kernel
theorem dX2_write_73 : decode cX2_write 73 = .ok (.invokevirtual 44, 3) := by decide +kernel
theorem dX2_write_76 : decode cX2_write 76 = .ok (.iconst 2, 1) := by decide +kernel
theorem dX2_write_77 : decode cX2_write 77 = .ok (.invokevirtual 34, 3) := by decide +kernel
theorem dX2_write_80 : decode cX2_write 80 = .ok (.aload_n 0, 1) := by decide +kernel
theorem dX2_write_81 : decode cX2_write 81 = .ok (.bipush 58, 2) := by decide +kernel
theorem dX2_write_83 : decode cX2_write 83 = .ok (.invokevirtual 24, 3) := by decide +kernel
theorem dX2_write_86 : decode cX2_write 86 = .ok (.aload_n 0, 1) := by decide +kernel
theorem dX2_write_87 : decode cX2_write 87 = .ok (.aload_n 1, 1) := by decide +kernel
theorem dX2_write_88 : decode cX2_write 88 = .ok (.bipush 7, 2) := by decide +kernel
theorem dX2_write_90 : decode cX2_write 90 = .ok (.invokevirtual 44, 3) := by decide +kernel
theorem dX2_write_93 : decode cX2_write 93 = .ok (.iconst 2, 1) := by decide +kernel
theorem dX2_write_94 : decode cX2_write 94 = .ok (.invokevirtual 34, 3) := by decide +kernel
theorem dX2_write_97 : decode cX2_write 97 = .ok (.aload_n 1, 1) := by decide +kernel
theorem dX2_write_98 : decode cX2_write 98 = .ok (.getfield 48, 3) := by decide +kernel
theorem dX2_write_101 : decode cX2_write 101 = .ok (.ldc2_w 52, 3) := by decide +kernel
theorem dX2_write_104 : decode cX2_write 104 = .ok (.lrem, 1) := by decide +kernel
theorem dX2_write_105 : decode cX2_write 105 = .ok (.lconst 0, 1) := by decide +kernel
theorem dX2_write_106 : decode cX2_write 106 = .ok (.lcmp, 1) := by decide +kernel
theorem dX2_write_107 : decode cX2_write 107 = .ok (.ifCond .eq 30, 3) := by decide +kernel
theorem dX2_write_110 : decode cX2_write 110 = .ok (.aload_n 0, 1) := by decide +kernel
theorem dX2_write_111 : decode cX2_write 111 = .ok (.bipush 58, 2) := by decide +kernel
theorem dX2_write_113 : decode cX2_write 113 = .ok (.invokevirtual 24, 3) := by decide +kernel
theorem dX2_write_116 : decode cX2_write 116 = .ok (.aload_n 0, 1) := by decide +kernel
theorem dX2_write_117 : decode cX2_write 117 = .ok (.aload_n 1, 1) := by decide +kernel
theorem dX2_write_118 : decode cX2_write 118 = .ok (.bipush 8, 2) := by decide +kernel
theorem dX2_write_120 : decode cX2_write 120 = .ok (.invokevirtual 44, 3) := by decide +kernel
theorem dX2_write_123 : decode cX2_write 123 = .ok (.iconst 2, 1) := by decide +kernel
theorem dX2_write_124 : decode cX2_write 124 = .ok (.invokevirtual 34, 3) := by decide +kernel
theorem dX2_write_127 : decode cX2_write 127 = .ok (.aload_n 0, 1) := by decide +kernel
theorem dX2_write_128 : decode cX2_write 128 = .ok (.aload_n 1, 1) := by decide +kernel
theorem dX2_write_129 : decode cX2_write 129 = .ok (.bipush 9, 2) := by decide +kernel
theorem dX2_write_131 : decode cX2_write 131 = .ok (.invokevirtual 44, 3) := by decide +kernel
theorem dX2_write_134 : decode cX2_write 134 = .ok (.invokevirtual 54, 3) := by decide +kernel
theorem dX2_write_137 : decode cX2_write 137 = .ok (.return_, 1) := by decide +kernel
theorem dX2_appendFraction_0 : decode cX2_appendFraction 0 = .ok (.lload_n 1, 1) := by decide +kernel
theorem dX2_appendFraction_1 : decode cX2_appendFraction 1 = .ok (.lconst 0, 1) := by decide +kernel
theorem dX2_appendFraction_2 : decode cX2_appendFraction 2 = .ok (.lcmp, 1) := by decide +kernel
theorem dX2_appendFraction_3 : decode cX2_appendFraction 3 = .ok (.ifCond .ne 4, 3) := by decide +kernel
theorem dX2_appendFraction_6 : decode cX2_appendFraction 6 = .ok (.return_, 1) := by decide +kernel
theorem dX2_appendFraction_7 : decode cX2_appendFraction 7 = .ok (.aload_n 0, 1) := by decide +kernel
theorem dX2_appendFraction_8 : decode cX2_appendFraction 8 = .ok (.bipush 46, 2) := by decide +kernel
theorem dX2_appendFraction_10 : decode cX2_appendFraction 10 = .ok (.invokevirtual 24, 3) := by decide +kernel
theorem dX2_appendFraction_13 : decode cX2_appendFraction 13 = .ok (.lload_n 1, 1) := by decide +kernel
theorem dX2_appendFraction_14 : decode cX2_appendFraction 14 = .ok (.ldc2_w 58, 3) := by decide +kernel
theorem dX2_appendFraction_17 : decode cX2_appendFraction 17 = .ok (.lrem, 1) := by decide +kernel
theorem dX2_appendFraction_18 : decode cX2_appendFraction 18 = .ok (.lconst 0, 1) := by decide +kernel
theorem dX2_appendFraction_19 : decode cX2_appendFraction 19 = .ok (.lcmp, 1) := by decide +kernel
theorem dX2_appendFraction_20 : decode cX2_appendFraction 20 = .ok (.ifCond .ne 16, 3) := by decide +kernel
theorem dX2_appendFraction_23 : decode cX2_appendFraction 23 = .ok (.aload_n 0, 1) := by decide +kernel
theorem dX2_appendFraction_24 : decode cX2_appendFraction 24 = .ok (.lload_n 1, 1) := by decide +kernel
theorem dX2_appendFraction_25 : decode cX2_appendFraction 25 = .ok (.ldc2_w 58, 3) := by decide +kernel
theorem dX2_appendFraction_28 : decode cX2_appendFraction 28 = .ok (.ldiv, 1) := by decide +kernel
theorem dX2_appendFraction_29 : decode cX2_appendFraction 29 = .ok (.iconst 3, 1) := by decide +kernel
theorem dX2_appendFraction_30 : decode cX2_appendFraction 30 = .ok (.invokevirtual 34, 3) := by decide +kernel
theorem dX2_appendFraction_33 : decode cX2_appendFraction 33 = .ok (.goto 34, 3) := by decide +kernel
theorem dX2_appendFraction_36 : decode cX2_appendFraction 36 = .ok (.lload_n 1, 1) := by decide +kernel
theorem dX2_appendFraction_37 : decode cX2_appendFraction 37 = .ok (.ldc2_w 60, 3) := by decide +kernel
theorem dX2_appendFraction_40 : decode cX2_appendFraction 40 = .ok (.lrem, 1) := by decide +kernel
theorem dX2_appendFraction_41 : decode cX2_appendFraction 41 = .ok (.lconst 0, 1) := by decide +kernel
theorem dX2_appendFraction_42 : decode cX2_appendFraction 42 = .ok (.lcmp, 1) := by decide +kernel
theorem dX2_appendFraction_43 : decode cX2_appendFraction 43 = .ok (.ifCond .ne 17, 3) := by decide +kernel
theorem dX2_appendFraction_46 : decode cX2_appendFraction 46 = .ok (.aload_n 0, 1) := by decide +kernel
theorem dX2_appendFraction_47 : decode cX2_appendFraction 47 = .ok (.lload_n 1, 1) := by decide +kernel
theorem dX2_appendFraction_48 : decode cX2_appendFraction 48 = .ok (.ldc2_w 60, 3) := by decide +kernel
theorem dX2_appendFraction_51 : decode cX2_appendFraction 51 = .ok (.ldiv, 1) := by decide +kernel
theorem dX2_appendFraction_52 : decode cX2_appendFraction 52 = .ok (.bipush 6, 2) := by decide +kernel
theorem dX2_appendFraction_54 : decode cX2_appendFraction 54 = .ok (.invokevirtual 34, 3) := by decide +kernel
theorem dX2_appendFraction_57 : decode cX2_appendFraction 57 = .ok (.goto 10, 3) := by decide +kernel
theorem dX2_appendFraction_60 : decode cX2_appendFraction 60 = .ok (.aload_n 0, 1) := by decide +kernel
theorem dX2_appendFraction_61 : decode cX2_appendFraction 61 = .ok (.lload_n 1, 1) := by decide +kernel
theorem dX2_appendFraction_62 : decode cX2_appendFraction 62 = .ok (.bipush 9, 2) := by decide +kernel
theorem dX2_appendFraction_64 : decode cX2_appendFraction 64 = .ok (.invokevirtual 34, 3) := by decide +kernel
theorem dX2_appendFraction_67 : decode cX2_appendFraction 67 = .ok (.return_, 1) := by decide +kernel
theorem dX2_append_0 : decode cX2_append 0 = .ok (.aload_n 0, 1) := by decide +kernel
theorem dX2_append_1 : decode cX2_append 1 = .ok (.getfield 15, 3) := by decide +kernel
theorem dX2_append_4 : decode cX2_append 4 = .ok (.bipush 30, 2) := by decide +kernel
theorem dX2_append_6 : decode cX2_append 6 = .ok (.if_icmp .ge 23, 3) := by decide +kernel
theorem dX2_append_9 : decode cX2_append 9 = .ok (.aload_n 0, 1) := by decide +kernel
theorem dX2_append_10 : decode cX2_append 10 = .ok (.getfield 9, 3) := by decide +kernel
theorem dX2_append_13 : decode cX2_append 13 = .ok (.aload_n 0, 1) := by decide +kernel
theorem dX2_append_14 : decode cX2_append 14 = .ok (.getfield 15, 3) := by decide +kernel
theorem dX2_append_17 : decode cX2_append 17 = .ok (.iload_n 1, 1) := by decide +kernel
theorem dX2_append_18 : decode cX2_append 18 = .ok (.castore, 1) := by decide +kernel
theorem dX2_append_19 : decode cX2_append 19 = .ok (.aload_n 0, 1) := by decide +kernel
theorem dX2_append_20 : decode cX2_append 20 = .ok (.dup, 1) := by decide +kernel
theorem dX2_append_21 : decode cX2_append 21 = .ok (.getfield 15, 3) := by decide +kernel
theorem dX2_append_24 : decode cX2_append 24 = .ok (.iconst 1, 1) := by decide +kernel
theorem dX2_append_25 : decode cX2_append 25 = .ok (.iadd, 1) := by decide +kernel
theorem dX2_append_26 : decode cX2_append 26 = .ok (.putfield 15, 3) := by decide +kernel
theorem dX2_append_29 : decode cX2_append 29 = .ok (.return_, 1) := by decide +kernel
theorem dX2_appendDigits_0 : decode cX2_appendDigits 0 = .ok (.aload_n 0, 1) := by decide +kernel
theorem dX2_appendDigits_1 : decode cX2_appendDigits 1 = .ok (.getfield 15, 3) := by decide +kernel
theorem dX2_appendDigits_4 : decode cX2_appendDigits 4 = .ok (.iload_n 3, 1) := by decide +kernel
theorem dX2_appendDigits_5 : decode cX2_appendDigits 5 = .ok (.iadd, 1) := by decide +kernel
theorem dX2_appendDigits_6 : decode cX2_appendDigits 6 = .ok (.bipush 30, 2) := by decide +kernel
theorem dX2_appendDigits_8 : decode cX2_appendDigits 8 = .ok (.if_icmp .le 4, 3) := by decide +kernel
theorem dX2_appendDigits_11 : decode cX2_appendDigits 11 = .ok (.return_, 1) := by decide +kernel
theorem dX2_appendDigits_12 : decode cX2_appendDigits 12 = .ok (.lload_n 1, 1) := by decide +kernel
theorem dX2_appendDigits_13 : decode cX2_appendDigits 13 = .ok (.lstore 4, 2) := by decide +kernel
theorem dX2_appendDigits_15 : decode cX2_appendDigits 15 = .ok (.aload_n 0, 1) := by decide +kernel
theorem dX2_appendDigits_16 : decode cX2_appendDigits 16 = .ok (.getfield 15, 3) := by decide +kernel
theorem dX2_appendDigits_19 : decode cX2_appendDigits 19 = .ok (.iload_n 3, 1) := by decide +kernel
theorem dX2_appendDigits_20 : decode cX2_appendDigits 20 = .ok (.iadd, 1) := by decide +kernel
theorem dX2_appendDigits_21 : decode cX2_appendDigits 21 = .ok (.iconst 1, 1) := by decide +kernel
theorem dX2_appendDigits_22 : decode cX2_appendDigits 22 = .ok (.isub, 1) := by decide +kernel
theorem dX2_appendDigits_23 : decode cX2_appendDigits 23 = .ok (.istore 6, 2) := by decide +kernel
theorem dX2_appendDigits_25 : decode cX2_appendDigits 25 = .ok (.iload 6, 2) := by decide +kernel
theorem dX2_appendDigits_27 : decode cX2_appendDigits 27 = .ok (.aload_n 0, 1) := by decide +kernel
theorem dX2_appendDigits_28 : decode cX2_appendDigits 28 = .ok (.getfield 15, 3) := by decide +kernel
theorem dX2_appendDigits_31 : decode cX2_appendDigits 31 = .ok (.if_icmp .lt 36, 3) := by decide +kernel
theorem dX2_appendDigits_34 : decode cX2_appendDigits 34 = .ok (.aload_n 0, 1) := by decide +kernel
theorem dX2_appendDigits_35 : decode cX2_appendDigits 35 = .ok (.getfield 9, 3) := by decide +kernel
theorem dX2_appendDigits_38 : decode cX2_appendDigits 38 = .ok (.iload 6, 2) := by decide +kernel
theorem dX2_appendDigits_40 : decode cX2_appendDigits 40 = .ok (.ldc2_w 62, 3) := by decide +kernel
theorem dX2_appendDigits_43 : decode cX2_appendDigits 43 = .ok (.lload 4, 2) := by decide +kernel
theorem dX2_appendDigits_45 : decode cX2_appendDigits 45 = .ok (.ldc2_w 64, 3) := by decide +kernel
theorem dX2_appendDigits_48 : decode cX2_appendDigits 48 = .ok (.lrem, 1) := by decide +kernel
theorem dX2_appendDigits_49 : decode cX2_appendDigits 49 = .ok (.ladd, 1) := by decide +kernel
theorem dX2_appendDigits_50 : decode cX2_appendDigits 50 = .ok (.l2i, 1) := by decide +kernel
theorem dX2_appendDigits_51 : decode cX2_appendDigits 51 = .ok (.i2c, 1) := by decide +kernel
theorem dX2_appendDigits_52 : decode cX2_appendDigits 52 = .ok (.castore, 1) := by decide +kernel
theorem dX2_appendDigits_53 : decode cX2_appendDigits 53 = .ok (.lload 4, 2) := by decide +kernel
theorem dX2_appendDigits_55 : decode cX2_appendDigits 55 = .ok (.ldc2_w 64, 3) := by decide +kernel
theorem dX2_appendDigits_58 : decode cX2_appendDigits 58 = .ok (.ldiv, 1) := by decide +kernel
theorem dX2_appendDigits_59 : decode cX2_appendDigits 59 = .ok (.lstore 4, 2) := by decide +kernel
theorem dX2_appendDigits_61 : decode cX2_appendDigits 61 = .ok (.iinc 6 (-1), 3) := by decide +kernel
theorem dX2_appendDigits_64 : decode cX2_appendDigits 64 = .ok (.goto (-39), 3) := by decide +kernel
theorem dX2_appendDigits_67 : decode cX2_appendDigits 67 = .ok (.aload_n 0, 1) := by decide +kernel
theorem dX2_appendDigits_68 : decode cX2_appendDigits 68 = .ok (.dup, 1) := by decide +kernel
theorem dX2_appendDigits_69 : decode cX2_appendDigits 69 = .ok (.getfield 15, 3) := by decide +kernel
theorem dX2_appendDigits_72 : decode cX2_appendDigits 72 = .ok (.iload_n 3, 1) := by decide +kernel
theorem dX2_appendDigits_73 : decode cX2_appendDigits 73 = .ok (.iadd, 1) := by decide +kernel
theorem dX2_appendDigits_74 : decode cX2_appendDigits 74 = .ok (.putfield 15, 3) := by decide +kernel
theorem dX2_appendDigits_77 : decode cX2_appendDigits 77 = .ok (.return_, 1) := by decide +kernel
