theorem dX1_init_0 : decode cX1_init 0 = .ok (.aload_n 0, 1) := by decide +kernel
theorem dX1_init_1 : decode cX1_init 1 = .ok (.invokespecial 3, 3) := by decide +kernel
theorem dX1_init_4 : decode cX1_init 4 = .ok (.aload_n 0, 1) := by decide +kernel
theorem dX1_init_5 : decode cX1_init 5 = .ok (.bipush 30, 2) := by decide +kernel
theorem dX1_init_7 : decode cX1_init 7 = .ok (.newarray .char, 2) := by decide +kernel
theorem dX1_init_9 : decode cX1_init 9 = .ok (.putfield 9, 3) := by decide +kernel
theorem dX1_init_12 : decode cX1_init 12 = .ok (.return_, 1) := by decide +kernel
theorem dX1_append_0 : decode cX1_append 0 = .ok (.iload_n 1, 1) := by decide +kernel
theorem dX1_append_1 : decode cX1_append 1 = .ok (.bipush 32, 2) := by decide +kernel
theorem dX1_append_3 : decode cX1_append 3 = .ok (.if_icmp .lt 18, 3) := by decide +kernel
theorem dX1_append_6 : decode cX1_append 6 = .ok (.iload_n 1, 1) := by decide +kernel
theorem dX1_append_7 : decode cX1_append 7 = .ok (.bipush 126, 2) := by decide +kernel
theorem dX1_append_9 : decode cX1_append 9 = .ok (.if_icmp .gt 12, 3) := by decide +kernel
theorem dX1_append_12 : decode cX1_append 12 = .ok (.aload_n 0, 1) := by decide +kernel
theorem dX1_append_13 : decode cX1_append 13 = .ok (.getfield 15, 3) := by decide +kernel
theorem dX1_append_16 : decode cX1_append 16 = .ok (.bipush 30, 2) := by decide +kernel
theorem dX1_append_18 : decode cX1_append 18 = .ok (.if_icmp .lt 5, 3) := by decide +kernel
theorem dX1_append_21 : decode cX1_append 21 = .ok (.iconst 0, 1) := by decide +kernel
theorem dX1_append_22 : decode cX1_append 22 = .ok (.ireturn, 1) := by decide +kernel
theorem dX1_append_23 : decode cX1_append 23 = .ok (.aload_n 0, 1) := by decide +kernel
theorem dX1_append_24 : decode cX1_append 24 = .ok (.getfield 9, 3) := by decide +kernel
theorem dX1_append_27 : decode cX1_append 27 = .ok (.aload_n 0, 1) := by decide +kernel
theorem dX1_append_28 : decode cX1_append 28 = .ok (.getfield 15, 3) := by decide +kernel
theorem dX1_append_31 : decode cX1_append 31 = .ok (.iload_n 1, 1) := by decide +kernel
theorem dX1_append_32 : decode cX1_append 32 = .ok (.castore, 1) := by decide +kernel
theorem dX1_append_33 : decode cX1_append 33 = .ok (.aload_n 0, 1) := by decide +kernel
theorem dX1_append_34 : decode cX1_append 34 = .ok (.dup, 1) := by decide +kernel
theorem dX1_append_35 : decode cX1_append 35 = .ok (.getfield 15, 3) := by decide +kernel
theorem dX1_append_38 : decode cX1_append 38 = .ok (.iconst 1, 1) := by decide +kernel
theorem dX1_append_39 : decode cX1_append 39 = .ok (.iadd, 1) := by decide +kernel
theorem dX1_append_40 : decode cX1_append 40 = .ok (.putfield 15, 3) := by decide +kernel
theorem dX1_append_43 : decode cX1_append 43 = .ok (.iconst 1, 1) := by decide +kernel
theorem dX1_append_44 : decode cX1_append 44 = .ok (.ireturn, 1) := by decide +kernel
theorem dX1_clear_0 : decode cX1_clear 0 = .ok (.aload_n 0, 1) := by decide +kernel
theorem dX1_clear_1 : decode cX1_clear 1 = .ok (.iconst 0, 1) := by decide +kernel
theorem dX1_clear_2 : decode cX1_clear 2 = .ok (.putfield 15, 3) := by decide +kernel
theorem dX1_clear_5 : decode cX1_clear 5 = .ok (.return_, 1) := by decide +kernel
theorem dX1_readInto_0 : decode cX1_readInto 0 = .ok (.aload_n 0, 1) := by decide +kernel
theorem dX1_readInto_1 : decode cX1_readInto 1 = .ok (.iconst 0, 1) := by decide +kernel
theorem dX1_readInto_2 : decode cX1_readInto 2 = .ok (.putfield 19, 3) := by decide +kernel
theorem dX1_readInto_5 : decode cX1_readInto 5 = .ok (.aload_n 0, 1) := by decide +kernel
theorem dX1_readInto_6 : decode cX1_readInto 6 = .ok (.bipush 45, 2) := by decide +kernel
theorem dX1_readInto_8 : decode cX1_readInto 8 = .ok (.invokevirtual 22, 3) := by decide +kernel
theorem dX1_readInto_11 : decode cX1_readInto 11 = .ok (.istore_n 2, 1) := by decide +kernel
theorem dX1_readInto_12 : decode cX1_readInto 12 = .ok (.aload_n 0, 1) := by decide +kernel
theorem dX1_readInto_13 : decode cX1_readInto 13 = .ok (.iconst 4, 1) := by decide +kernel
theorem dX1_readInto_14 : decode cX1_readInto 14 = .ok (.invokevirtual 26, 3) := by decide +kernel
theorem dX1_readInto_17 : decode cX1_readInto 17 = .ok (.istore_n 3, 1) := by decide +kernel
theorem dX1_readInto_18 : decode cX1_readInto 18 = .ok (.iload_n 2, 1) := by decide +kernel
theorem dX1_readInto_19 : decode cX1_readInto 19 = .ok (.ifCond .eq 7, 3) := by decide +kernel
theorem dX1_readInto_22 : decode cX1_readInto 22 = .ok (.iload_n 3, 1) := by decide +kernel
theorem dX1_readInto_23 : decode cX1_readInto 23 = .ok (.ifCond .eq 7, 3) := by decide +kernel
theorem dX1_readInto_26 : decode cX1_readInto 26 = .ok (.iload_n 3, 1) := by decide +kernel
theorem dX1_readInto_27 : decode cX1_readInto 27 = .ok (.ifCond .ge 5, 3) := by decide +kernel
theorem dX1_readInto_30 : decode cX1_readInto 30 = .ok (.iconst 0, 1) := by decide +kernel
theorem dX1_readInto_31 : decode cX1_readInto 31 = .ok (.ireturn, 1) := by decide +kernel
theorem dX1_readInto_32 : decode cX1_readInto 32 = .ok (.iload_n 2, 1) := by decide +kernel
theorem dX1_readInto_33 : decode cX1_readInto 33 = .ok (.ifCond .eq 8, 3) := by decide +kernel
theorem dX1_readInto_36 : decode cX1_readInto 36 = .ok (.iload_n 3, 1) := by decide +kernel
theorem dX1_readInto_37 : decode cX1_readInto 37 = .ok (.ineg, 1) := by decide +kernel
theorem dX1_readInto_38 : decode cX1_readInto 38 = .ok (.goto 4, 3) := by decide +kernel
theorem dX1_readInto_41 : decode cX1_readInto 41 = .ok (.iload_n 3, 1) := by decide +kernel
theorem dX1_readInto_42 : decode cX1_readInto 42 = .ok (.istore 4, 2) := by decide +kernel
theorem dX1_readInto_44 : decode cX1_readInto 44 = .ok (.aload_n 0, 1) := by decide +kernel
theorem dX1_readInto_45 : decode cX1_readInto 45 = .ok (.bipush 45, 2) := by decide +kernel
theorem dX1_readInto_47 : decode cX1_readInto 47 = .ok (.invokevirtual 22, 3) := by decide +kernel
theorem dX1_readInto_50 : decode cX1_readInto 50 = .ok (.ifCond .eq 11, 3) := by decide +kernel
theorem dX1_readInto_53 : decode cX1_readInto 53 = .ok (.aload_n 0, 1) := by decide +kernel
theorem dX1_readInto_54 : decode cX1_readInto 54 = .ok (.iconst 2, 1) := by decide +kernel
theorem dX1_readInto_55 : decode cX1_readInto 55 = .ok (.invokevirtual 26, 3) := by decide +kernel
theorem dX1_readInto_58 : decode cX1_readInto 58 = .ok (.goto 4, 3) := by decide +kernel
theorem dX1_readInto_61 : decode cX1_readInto 61 = .ok (.iconst (-1), 1) := by decide +kernel
theorem dX1_readInto_62 : decode cX1_readInto 62 = .ok (.istore 5, 2) := by decide +kernel
theorem dX1_readInto_64 : decode cX1_readInto 64 = .ok (.aload_n 0, 1) := by decide +kernel
theorem dX1_readInto_65 : decode cX1_readInto 65 = .ok (.bipush 45, 2) := by decide +kernel
theorem dX1_readInto_67 : decode cX1_readInto 67 = .ok (.invokevirtual 22, 3) := by decide +kernel
theorem dX1_readInto_70 : decode cX1_readInto 70 = .ok (.ifCond .eq 11, 3) := by decide +kernel
theorem dX1_readInto_73 : decode cX1_readInto 73 = .ok (.aload_n 0, 1) := by decide +kernel
theorem dX1_readInto_74 : decode cX1_readInto 74 = .ok (.iconst 2, 1) := by decide +kernel
theorem dX1_readInto_75 : decode cX1_readInto 75 = .ok (.invokevirtual 26, 3) := by decide +kernel
theorem dX1_readInto_78 : decode cX1_readInto 78 = .ok (.goto 4, 3) := by decide +kernel
theorem dX1_readInto_81 : decode cX1_readInto 81 = .ok (.iconst (-1), 1) := by decide +kernel
theorem dX1_readInto_82 : decode cX1_readInto 82 = .ok (.istore 6, 2) := by decide +kernel
theorem dX1_readInto_84 : decode cX1_readInto 84 = .ok (.iload 4, 2) := by decide +kernel
theorem dX1_readInto_86 : decode cX1_readInto 86 = .ok (.iload 5, 2) := by decide +kernel
theorem dX1_readInto_88 : decode cX1_readInto 88 = .ok (.iload 6, 2) := by decide +kernel
theorem dX1_readInto_90 : decode cX1_readInto 90 = .ok (.invokestatic 30, 3) := by decide +kernel
theorem dX1_readInto_93 : decode cX1_readInto 93 = .ok (.ifCond .ne 5, 3) := by decide +kernel
theorem dX1_readInto_96 : decode cX1_readInto 96 = .ok (.iconst 0, 1) := by decide +kernel
theorem dX1_readInto_97 : decode cX1_readInto 97 = .ok (.ireturn, 1) := by decide +kernel
theorem dX1_readInto_98 : decode cX1_readInto 98 = .ok (.aload_n 0, 1) := by decide +kernel
theorem dX1_readInto_99 : decode cX1_readInto 99 = .ok (.invokevirtual 36, 3) := by decide +kernel
theorem dX1_readInto_102 : decode cX1_readInto 102 = .ok (.ifCond .eq 7, 3) := by decide +kernel
theorem dX1_readInto_105 : decode cX1_readInto 105 = .ok (.lconst 0, 1) := by decide +kernel
theorem dX1_readInto_106 : decode cX1_readInto 106 = .ok (.goto 7, 3) := by decide +kernel
theorem dX1_readInto_109 : decode cX1_readInto 109 = .ok (.aload_n 0, 1) := by decide +kernel
theorem dX1_readInto_110 : decode cX1_readInto 110 = .ok (.invokevirtual 40, 3) := by decide +kernel
theorem dX1_readInto_113 : decode cX1_readInto 113 = .ok (.lstore 7, 2) := by decide +kernel
theorem dX1_readInto_115 : decode cX1_readInto 115 = .ok (.lload 7, 2) := by decide +kernel
theorem dX1_readInto_117 : decode cX1_readInto 117 = .ok (.lconst 0, 1) := by decide +kernel
theorem dX1_readInto_118 : decode cX1_readInto 118 = .ok (.lcmp, 1) := by decide +kernel
theorem dX1_readInto_119 : decode cX1_readInto 119 = .ok (.ifCond .lt 10, 3) := by decide +kernel
theorem dX1_readInto_122 : decode cX1_readInto 122 = .ok (.aload_n 0, 1) := by decide +kernel
theorem dX1_readInto_123 : decode cX1_readInto 123 = .ok (.invokevirtual 36, 3) := by decide +kernel
theorem dX1_readInto_126 : decode cX1_readInto 126 = .ok (.ifCond .ne 5, 3) := by decide +kernel
theorem dX1_readInto_129 : decode cX1_readInto 129 = .ok (.iconst 0, 1) := by decide +kernel
theorem dX1_readInto_130 : decode cX1_readInto 130 = .ok (.ireturn, 1) := by decide +kernel
theorem dX1_readInto_131 : decode cX1_readInto 131 = .ok (.aload_n 1, 1) := by decide +kernel
theorem dX1_readInto_132 : decode cX1_readInto 132 = .ok (.iload 4, 2) := by decide +kernel
theorem dX1_readInto_134 : decode cX1_readInto 134 = .ok (.iload 5, 2) := by decide +kernel
theorem dX1_readInto_136 : decode cX1_readInto 136 = .ok (.iload 6, 2) := by decide +kernel
theorem dX1_readInto_138 : decode cX1_readInto 138 = .ok (.invokevirtual 44, 3) := by decide +kernel
theorem dX1_readInto_141 : decode cX1_readInto 141 = .ok (.aload_n 1, 1) := by decide +kernel
theorem dX1_readInto_142 : decode cX1_readInto 142 = .ok (.lload 7, 2) := by decide +kernel
theorem dX1_readInto_144 : decode cX1_readInto 144 = .ok (.invokevirtual 50, 3) := by decide +kernel
theorem dX1_readInto_147 : decode cX1_readInto 147 = .ok (.iconst 1, 1) := by decide +kernel
theorem dX1_readInto_148 : decode cX1_readInto 148 = .ok (.ireturn, 1) := by decide +kernel
theorem dX1_timeOfDay_0 : decode cX1_timeOfDay 0 = .ok (.aload_n 0, 1) := by decide +kernel
theorem dX1_timeOfDay_1 : decode cX1_timeOfDay 1 = .ok (.bipush 84, 2) := by decide +kernel
theorem dX1_timeOfDay_3 : decode cX1_timeOfDay 3 = .ok (.invokevirtual 22, 3) := by decide +kernel
theorem dX1_timeOfDay_6 : decode cX1_timeOfDay 6 = .ok (.ifCond .eq 11, 3) := by decide +kernel
theorem dX1_timeOfDay_9 : decode cX1_timeOfDay 9 = .ok (.aload_n 0, 1) := by decide +kernel
theorem dX1_timeOfDay_10 : decode cX1_timeOfDay 10 = .ok (.iconst 2, 1) := by decide +kernel
theorem dX1_timeOfDay_11 : decode cX1_timeOfDay 11 = .ok (.invokevirtual 26, 3) := by decide +kernel
theorem dX1_timeOfDay_14 : decode cX1_timeOfDay 14 = .ok (.goto 4, 3) := by decide +kernel
theorem dX1_timeOfDay_17 : decode cX1_timeOfDay 17 = .ok (.iconst (-1), 1) := by decide +kernel
theorem dX1_timeOfDay_18 : decode cX1_timeOfDay 18 = .ok (.istore_n 1, 1) := by decide +kernel
theorem dX1_timeOfDay_19 : decode cX1_timeOfDay 19 = .ok (.aload_n 0, 1) := by decide +kernel
theorem dX1_timeOfDay_20 : decode cX1_timeOfDay 20 = .ok (.bipush 58, 2) := by decide +kernel
theorem dX1_timeOfDay_22 : decode cX1_timeOfDay 22 = .ok (.invokevirtual 22, 3) := by decide +kernel
theorem dX1_timeOfDay_25 : decode cX1_timeOfDay 25 = .ok (.ifCond .eq 11, 3) := by decide +kernel
theorem dX1_timeOfDay_28 : decode cX1_timeOfDay 28 = .ok (.aload_n 0, 1) := by decide +kernel
theorem dX1_timeOfDay_29 : decode cX1_timeOfDay 29 = .ok (.iconst 2, 1) := by decide +kernel
theorem dX1_timeOfDay_30 : decode cX1_timeOfDay 30 = .ok (.invokevirtual 26, 3) := by decide +kernel
theorem dX1_timeOfDay_33 : decode cX1_timeOfDay 33 = .ok (.goto 4, 3) := by decide +kernel
theorem dX1_timeOfDay_36 : decode cX1_timeOfDay 36 = .ok (.iconst (-1), 1) := by decide +kernel
theorem dX1_timeOfDay_37 : decode cX1_timeOfDay 37 = .ok (.istore_n 2, 1) := by decide +kernel
theorem dX1_timeOfDay_38 : decode cX1_timeOfDay 38 = .ok (.iconst 0, 1) := by decide +kernel
theorem dX1_timeOfDay_39 : decode cX1_timeOfDay 39 = .ok (.istore_n 3, 1) := by decide +kernel
theorem dX1_timeOfDay_40 : decode cX1_timeOfDay 40 = .ok (.iconst 0, 1) := by decide +kernel
theorem dX1_timeOfDay_41 : decode cX1_timeOfDay 41 = .ok (.istore 4, 2) := by decide +kernel
theorem dX1_timeOfDay_43 : decode cX1_timeOfDay 43 = .ok (.aload_n 0, 1) := by decide +kernel
theorem dX1_timeOfDay_44 : decode cX1_timeOfDay 44 = .ok (.invokevirtual 36, 3) := by decide +kernel
theorem dX1_timeOfDay_47 : decode cX1_timeOfDay 47 = .ok (.ifCond .ne 39, 3) := by decide +kernel
theorem dX1_timeOfDay_50 : decode cX1_timeOfDay 50 = .ok (.aload_n 0, 1) := by decide +kernel
theorem dX1_timeOfDay_51 : decode cX1_timeOfDay 51 = .ok (.bipush 58, 2) := by decide +kernel
theorem dX1_timeOfDay_53 : decode cX1_timeOfDay 53 = .ok (.invokevirtual 22, 3) := by decide +kernel
theorem dX1_timeOfDay_56 : decode cX1_timeOfDay 56 = .ok (.ifCond .eq 11, 3) := by decide +kernel
theorem dX1_timeOfDay_59 : decode cX1_timeOfDay 59 = .ok (.aload_n 0, 1) := by decide +kernel
theorem dX1_timeOfDay_60 : decode cX1_timeOfDay 60 = .ok (.iconst 2, 1) := by decide +kernel
theorem dX1_timeOfDay_61 : decode cX1_timeOfDay 61 = .ok (.invokevirtual 26, 3) := by decide +kernel
theorem dX1_timeOfDay_64 : decode cX1_timeOfDay 64 = .ok (.goto 4, 3) := by decide +kernel
theorem dX1_timeOfDay_67 : decode cX1_timeOfDay 67 = .ok (.iconst (-1), 1) := by decide +kernel
theorem dX1_timeOfDay_68 : decode cX1_timeOfDay 68 = .ok (.istore_n 3, 1) := by decide +kernel
theorem dX1_timeOfDay_69 : decode cX1_timeOfDay 69 = .ok (.aload_n 0, 1) := by decide +kernel
theorem dX1_timeOfDay_70 : decode cX1_timeOfDay 70 = .ok (.invokevirtual 36, 3) := by decide +kernel
theorem dX1_timeOfDay_73 : decode cX1_timeOfDay 73 = .ok (.ifCond .eq 7, 3) := by decide +kernel
theorem dX1_timeOfDay_76 : decode cX1_timeOfDay 76 = .ok (.iconst 0, 1) := by decide +kernel
theorem dX1_timeOfDay_77 : decode cX1_timeOfDay 77 = .ok (.goto 7, 3) := by decide +kernel
theorem dX1_timeOfDay_80 : decode cX1_timeOfDay 80 = .ok (.aload_n 0, 1) := by decide +kernel
theorem dX1_timeOfDay_81 : decode cX1_timeOfDay 81 = .ok (.invokevirtual 54, 3) := by decide +kernel
theorem dX1_timeOfDay_84 : decode cX1_timeOfDay 84 = .ok (.istore 4, 2) := by decide +kernel
theorem dX1_timeOfDay_86 : decode cX1_timeOfDay 86 = .ok (.iload_n 1, 1) := by decide +kernel
theorem dX1_timeOfDay_87 : decode cX1_timeOfDay 87 = .ok (.iload_n 2, 1) := by decide +kernel
theorem dX1_timeOfDay_88 : decode cX1_timeOfDay 88 = .ok (.iload_n 3, 1) := by decide +kernel
theorem dX1_timeOfDay_89 : decode cX1_timeOfDay 89 = .ok (.iload 4, 2) := by decide +kernel
theorem dX1_timeOfDay_91 : decode cX1_timeOfDay 91 = .ok (.invokestatic 58, 3) := by decide +kernel
theorem dX1_timeOfDay_94 : decode cX1_timeOfDay 94 = .ok (.ifCond .ne 7, 3) := by decide +kernel
theorem dX1_timeOfDay_97 : decode cX1_timeOfDay 97 = .ok (.ldc2_w 62, 3) := by decide +kernel
theorem dX1_timeOfDay_100 : decode cX1_timeOfDay 100 = .ok (.lreturn, 1) := by decide +kernel
theorem dX1_timeOfDay_101 : decode cX1_timeOfDay 101 = .ok (.iload_n 1, 1) := by decide +kernel
theorem dX1_timeOfDay_102 : decode cX1_timeOfDay 102 = .ok (.iload_n 2, 1) := by decide +kernel
theorem dX1_timeOfDay_103 : decode cX1_timeOfDay 103 = .ok (.iload_n 3, 1) := by decide +kernel
theorem dX1_timeOfDay_104 : decode cX1_timeOfDay 104 = .ok (.iload 4, 2) := by decide +kernel
theorem dX1_timeOfDay_106 : decode cX1_timeOfDay 106 = .ok (.invokestatic 64, 3) := by decide +kernel
theorem dX1_timeOfDay_109 : decode cX1_timeOfDay 109 = .ok (.lreturn, 1) := by decide +kernel
theorem dX1_fraction_0 : decode cX1_fraction 0 = .ok (.aload_n 0, 1) := by decide +kernel
theorem dX1_fraction_1 : decode cX1_fraction 1 = .ok (.bipush 46, 2) := by decide +kernel
theorem dX1_fraction_3 : decode cX1_fraction 3 = .ok (.invokevirtual 22, 3) := by decide +kernel
theorem dX1_fraction_6 : decode cX1_fraction 6 = .ok (.ifCond .eq 10, 3) := by decide +kernel
theorem dX1_fraction_9 : decode cX1_fraction 9 = .ok (.aload_n 0, 1) := by decide +kernel
theorem dX1_fraction_10 : decode cX1_fraction 10 = .ok (.invokevirtual 68, 3) := by decide +kernel
theorem dX1_fraction_13 : decode cX1_fraction 13 = .ok (.ifCond .ne 5, 3) := by decide +kernel
theorem dX1_fraction_16 : decode cX1_fraction 16 = .ok (.iconst (-1), 1) := by decide +kernel
theorem dX1_fraction_17 : decode cX1_fraction 17 = .ok (.ireturn, 1) := by decide +kernel
theorem dX1_fraction_18 : decode cX1_fraction 18 = .ok (.iconst 0, 1) := by decide +kernel
theorem dX1_fraction_19 : decode cX1_fraction 19 = .ok (.istore_n 1, 1) := by decide +kernel
theorem dX1_fraction_20 : decode cX1_fraction 20 = .ok (.iconst 0, 1) := by decide +kernel
theorem dX1_fraction_21 : decode cX1_fraction 21 = .ok (.istore_n 2, 1) := by decide +kernel
theorem dX1_fraction_22 : decode cX1_fraction 22 = .ok (.iload_n 2, 1) := by decide +kernel
theorem dX1_fraction_23 : decode cX1_fraction 23 = .ok (.bipush 9, 2) := by decide +kernel
theorem dX1_fraction_25 : decode cX1_fraction 25 = .ok (.if_icmp .ge 30, 3) := by decide +kernel
theorem dX1_fraction_28 : decode cX1_fraction 28 = .ok (.iload_n 1, 1) := by decide +kernel
theorem dX1_fraction_29 : decode cX1_fraction 29 = .ok (.bipush 10, 2) := by decide +kernel
theorem dX1_fraction_31 : decode cX1_fraction 31 = .ok (.imul, 1) := by decide +kernel
theorem dX1_fraction_32 : decode cX1_fraction 32 = .ok (.aload_n 0, 1) := by decide +kernel
theorem dX1_fraction_33 : decode cX1_fraction 33 = .ok (.invokevirtual 68, 3) := by decide +kernel
theorem dX1_fraction_36 : decode cX1_fraction 36 = .ok (.ifCond .eq 10, 3) := by decide +kernel
theorem dX1_fraction_39 : decode cX1_fraction 39 = .ok (.aload_n 0, 1) := by decide +kernel
theorem dX1_fraction_40 : decode cX1_fraction 40 = .ok (.invokevirtual 71, 3) := by decide +kernel
theorem dX1_fraction_43 : decode cX1_fraction 43 = .ok (.goto 4, 3) := by decide +kernel
theorem dX1_fraction_46 : decode cX1_fraction 46 = .ok (.iconst 0, 1) := by decide +kernel
theorem dX1_fraction_47 : decode cX1_fraction 47 = .ok (.iadd, 1) := by decide +kernel
theorem dX1_fraction_48 : decode cX1_fraction 48 = .ok (.istore_n 1, 1) := by decide +kernel
theorem dX1_fraction_49 : decode cX1_fraction 49 = .ok (.iinc 2 1, 3) := by decide +kernel
theorem dX1_fraction_52 : decode cX1_fraction 52 = .ok (.goto (-30), 3) := by decide +kernel
theorem dX1_fraction_55 : decode cX1_fraction 55 = .ok (.iload_n 1, 1) := by decide +kernel
theorem dX1_fraction_56 : decode cX1_fraction 56 = .ok (.ireturn, 1) := by decide +kernel
theorem dX1_number_0 : decode cX1_number 0 = .ok (.iconst 0, 1) := by decide +kernel
theorem dX1_number_1 : decode cX1_number 1 = .ok (.istore_n 2, 1) := by decide +kernel
theorem dX1_number_2 : decode cX1_number 2 = .ok (.iconst 0, 1) := by decide +kernel
theorem dX1_number_3 : decode cX1_number 3 = .ok (.istore_n 3, 1) := by decide +kernel
theorem dX1_number_4 : decode cX1_number 4 = .ok (.iload_n 3, 1) := by decide +kernel
theorem dX1_number_5 : decode cX1_number 5 = .ok (.iload_n 1, 1) := by decide +kernel
theorem dX1_number_6 : decode cX1_number 6 = .ok (.if_icmp .ge 28, 3) := by decide +kernel
theorem dX1_number_9 : decode cX1_number 9 = .ok (.aload_n 0, 1) := by decide +kernel
theorem dX1_number_10 : decode cX1_number 10 = .ok (.invokevirtual 68, 3) := by decide +kernel
theorem dX1_number_13 : decode cX1_number 13 = .ok (.ifCond .ne 5, 3) := by decide +kernel
theorem dX1_number_16 : decode cX1_number 16 = .ok (.iconst (-1), 1) := by decide +kernel
theorem dX1_number_17 : decode cX1_number 17 = .ok (.ireturn, 1) := by decide +kernel
theorem dX1_number_18 : decode cX1_number 18 = .ok (.iload_n 2, 1) := by decide +kernel
theorem dX1_number_19 : decode cX1_number 19 = .ok (.bipush 10, 2) := by decide +kernel
theorem dX1_number_21 : decode cX1_number 21 = .ok (.imul, 1) := by decide +kernel
theorem dX1_number_22 : decode cX1_number 22 = .ok (.aload_n 0, 1) := by decide +kernel
theorem dX1_number_23 : decode cX1_number 23 = .ok (.invokevirtual 71, 3) := by decide +kernel
theorem dX1_number_26 : decode cX1_number 26 = .ok (.iadd, 1) := by decide +kernel
theorem dX1_number_27 : decode cX1_number 27 = .ok (.istore_n 2, 1) := by decide +kernel
theorem dX1_number_28 : decode cX1_number 28 = .ok (.iinc 3 1, 3) := by decide +kernel
theorem dX1_number_31 : decode cX1_number 31 = .ok (.goto (-27), 3) := by decide +kernel
theorem dX1_number_34 : decode cX1_number 34 = .ok (.iload_n 2, 1) := by decide +kernel
theorem dX1_number_35 : decode cX1_number 35 = .ok (.ireturn, 1) := by decide +kernel
theorem dX1_isAtEnd_0 : decode cX1_isAtEnd 0 = .ok (.aload_n 0, 1) := by decide +kernel
theorem dX1_isAtEnd_1 : decode cX1_isAtEnd 1 = .ok (.getfield 19, 3) := by decide +kernel
theorem dX1_isAtEnd_4 : decode cX1_isAtEnd 4 = .ok (.aload_n 0, 1) := by decide +kernel
theorem dX1_isAtEnd_5 : decode cX1_isAtEnd 5 = .ok (.getfield 15, 3) := by decide +kernel
theorem dX1_isAtEnd_8 : decode cX1_isAtEnd 8 = .ok (.if_icmp .lt 7, 3) := by decide +kernel
theorem dX1_isAtEnd_11 : decode cX1_isAtEnd 11 = .ok (.iconst 1, 1) := by decide +kernel
theorem dX1_isAtEnd_12 : decode cX1_isAtEnd 12 = .ok (.goto 4, 3) := by decide +kernel
theorem dX1_isAtEnd_15 : decode cX1_isAtEnd 15 = .ok (.iconst 0, 1) := by decide +kernel
theorem dX1_isAtEnd_16 : decode cX1_isAtEnd 16 = .ok (.ireturn, 1) := by decide +kernel
theorem dX1_next_0 : decode cX1_next 0 = .ok (.aload_n 0, 1) := by decide +kernel
theorem dX1_next_1 : decode cX1_next 1 = .ok (.getfield 19, 3) := by decide +kernel
theorem dX1_next_4 : decode cX1_next 4 = .ok (.ifCond .lt 35, 3) := by decide +kernel
theorem dX1_next_7 : decode cX1_next 7 = .ok (.aload_n 0, 1) := by decide +kernel
theorem dX1_next_8 : decode cX1_next 8 = .ok (.getfield 19, 3) := by decide +kernel
theorem dX1_next_11 : decode cX1_next 11 = .ok (.aload_n 0, 1) := by decide +kernel
theorem dX1_next_12 : decode cX1_next 12 = .ok (.getfield 15, 3) := by decide +kernel
theorem dX1_next_15 : decode cX1_next 15 = .ok (.if_icmp .ge 24, 3) := by decide +kernel
theorem dX1_next_18 : decode cX1_next 18 = .ok (.aload_n 0, 1) := by decide +kernel
theorem dX1_next_19 : decode cX1_next 19 = .ok (.getfield 19, 3) := by decide +kernel
theorem dX1_next_22 : decode cX1_next 22 = .ok (.bipush 30, 2) := by decide +kernel
theorem dX1_next_24 : decode cX1_next 24 = .ok (.if_icmp .ge 15, 3) := by decide +kernel
theorem dX1_next_27 : decode cX1_next 27 = .ok (.aload_n 0, 1) := by decide +kernel
theorem dX1_next_28 : decode cX1_next 28 = .ok (.getfield 9, 3) := by decide +kernel
theorem dX1_next_31 : decode cX1_next 31 = .ok (.aload_n 0, 1) := by decide +kernel
theorem dX1_next_32 : decode cX1_next 32 = .ok (.getfield 19, 3) := by decide +kernel
theorem dX1_next_35 : decode cX1_next 35 = .ok (.caload, 1) := by decide +kernel
theorem dX1_next_36 : decode cX1_next 36 = .ok (.goto 4, 3) := by decide +kernel
theorem dX1_next_39 : decode cX1_next 39 = .ok (.iconst 0, 1) := by decide +kernel
theorem dX1_next_40 : decode cX1_next 40 = .ok (.ireturn, 1) := by decide +kernel
theorem dX1_isDigitNext_0 : decode cX1_isDigitNext 0 = .ok (.aload_n 0, 1) := by decide +kernel
theorem dX1_isDigitNext_1 : decode cX1_isDigitNext 1 = .ok (.invokevirtual 74, 3) := by decide +kernel
theorem dX1_isDigitNext_4 : decode cX1_isDigitNext 4 = .ok (.bipush 48, 2) := by decide +kernel
theorem dX1_isDigitNext_6 : decode cX1_isDigitNext 6 = .ok (.if_icmp .lt 16, 3) := by decide +kernel
theorem dX1_isDigitNext_9 : decode cX1_isDigitNext 9 = .ok (.aload_n 0, 1) := by decide +kernel
theorem dX1_isDigitNext_10 : decode cX1_isDigitNext 10 = .ok (.invokevirtual 74, 3) := by decide +kernel
theorem dX1_isDigitNext_13 : decode cX1_isDigitNext 13 = .ok (.bipush 57, 2) := by decide +kernel
theorem dX1_isDigitNext_15 : decode cX1_isDigitNext 15 = .ok (.if_icmp .gt 7, 3) := by decide +kernel
theorem dX1_isDigitNext_18 : decode cX1_isDigitNext 18 = .ok (.iconst 1, 1) := by decide +kernel
theorem dX1_isDigitNext_19 : decode cX1_isDigitNext 19 = .ok (.goto 4, 3) := by decide +kernel
theorem dX1_isDigitNext_22 : decode cX1_isDigitNext 22 = .ok (.iconst 0, 1) := by decide +kernel
theorem dX1_isDigitNext_23 : decode cX1_isDigitNext 23 = .ok (.ireturn, 1) := by decide +kernel
theorem dX1_nextDigit_0 : decode cX1_nextDigit 0 = .ok (.aload_n 0, 1) := by decide +kernel
theorem dX1_nextDigit_1 : decode cX1_nextDigit 1 = .ok (.invokevirtual 74, 3) := by decide +kernel
theorem dX1_nextDigit_4 : decode cX1_nextDigit 4 = .ok (.bipush 48, 2) := by decide +kernel
theorem dX1_nextDigit_6 : decode cX1_nextDigit 6 = .ok (.isub, 1) := by decide +kernel
theorem dX1_nextDigit_7 : decode cX1_nextDigit 7 = .ok (.istore_n 1, 1) := by decide +kernel
theorem dX1_nextDigit_8 : decode cX1_nextDigit 8 = .ok (.aload_n 0, 1) := by decide +kernel
theorem dX1_nextDigit_9 : decode cX1_nextDigit 9 = .ok (.dup, 1) := by decide +kernel
theorem dX1_nextDigit_10 : decode cX1_nextDigit 10 = .ok (.getfield 19, 3) := by decide +kernel
theorem dX1_nextDigit_13 : decode cX1_nextDigit 13 = .ok (.iconst 1, 1) := by decide +kernel
theorem dX1_nextDigit_14 : decode cX1_nextDigit 14 = .ok (.iadd, 1) := by decide +kernel
theorem dX1_nextDigit_15 : decode cX1_nextDigit 15 = .ok (.putfield 19, 3) := by decide +kernel
theorem dX1_nextDigit_18 : decode cX1_nextDigit 18 = .ok (.iload_n 1, 1) := by decide +kernel
theorem dX1_nextDigit_19 : decode cX1_nextDigit 19 = .ok (.ireturn, 1) := by decide +kernel
theorem dX1_skip_0 : decode cX1_skip 0 = .ok (.aload_n 0, 1) := by decide +kernel
theorem dX1_skip_1 : decode cX1_skip 1 = .ok (.invokevirtual 74, 3) := by decide +kernel
theorem dX1_skip_4 : decode cX1_skip 4 = .ok (.iload_n 1, 1) := by decide +kernel
theorem dX1_skip_5 : decode cX1_skip 5 = .ok (.if_icmp .eq 5, 3) := by decide +kernel
theorem dX1_skip_8 : decode cX1_skip 8 = .ok (.iconst 0, 1) := by decide +kernel
theorem dX1_skip_9 : decode cX1_skip 9 = .ok (.ireturn, 1) := by decide +kernel
theorem dX1_skip_10 : decode cX1_skip 10 = .ok (.aload_n 0, 1) := by decide +kernel
theorem dX1_skip_11 : decode cX1_skip 11 = .ok (.dup, 1) := by decide +kernel
theorem dX1_skip_12 : decode cX1_skip 12 = .ok (.getfield 19, 3) := by decide +kernel
theorem dX1_skip_15 : decode cX1_skip 15 = .ok (.iconst 1, 1) := by decide +kernel
theorem dX1_skip_16 : decode cX1_skip 16 = .ok (.iadd, 1) := by decide +kernel
theorem dX1_skip_17 : decode cX1_skip 17 = .ok (.putfield 19, 3) := by decide +kernel
theorem dX1_skip_20 : decode cX1_skip 20 = .ok (.iconst 1, 1) := by decide +kernel
theorem dX1_skip_21 : decode cX1_skip 21 = .ok (.ireturn, 1) := by decide +kernel
