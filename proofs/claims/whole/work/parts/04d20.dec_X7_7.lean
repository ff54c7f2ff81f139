theorem dX7_offsetAt_36 : decode cX7_offsetAt 36 = .ok (.ifCond .gt 18, 3) := by decide +kernel
theorem dX7_offsetAt_39 : decode cX7_offsetAt 39 = .ok (.aload_n 0, 1) := by decide +kernel
theorem dX7_offsetAt_40 : decode cX7_offsetAt 40 = .ok (.getfield 26, 3) := by decide +kernel
theorem dX7_offsetAt_43 : decode cX7_offsetAt 43 = .ok (.bipush 8, 2) := by decide +kernel
theorem dX7_offsetAt_45 : decode cX7_offsetAt 45 = .ok (.iload_n 1, 1) := by decide +kernel
theorem dX7_offsetAt_46 : decode cX7_offsetAt 46 = .ok (.imul, 1) := by decide +kernel
theorem dX7_offsetAt_47 : decode cX7_offsetAt 47 = .ok (.iload 5, 2) := by decide +kernel
theorem dX7_offsetAt_49 : decode cX7_offsetAt 49 = .ok (.iadd, 1) := by decide +kernel
theorem dX7_offsetAt_50 : decode cX7_offsetAt 50 = .ok (.iaload, 1) := by decide +kernel
theorem dX7_offsetAt_51 : decode cX7_offsetAt 51 = .ok (.goto 5, 3) := by decide +kernel
theorem dX7_offsetAt_54 : decode cX7_offsetAt 54 = .ok (.iload 4, 2) := by decide +kernel
theorem dX7_offsetAt_56 : decode cX7_offsetAt 56 = .ok (.istore 4, 2) := by decide +kernel
theorem dX7_offsetAt_58 : decode cX7_offsetAt 58 = .ok (.iinc 5 1, 3) := by decide +kernel
theorem dX7_offsetAt_61 : decode cX7_offsetAt 61 = .ok (.goto (-50), 3) := by decide +kernel
theorem dX7_offsetAt_64 : decode cX7_offsetAt 64 = .ok (.ldc2_w 206, 3) := by decide +kernel
theorem dX7_offsetAt_67 : decode cX7_offsetAt 67 = .ok (.lstore 5, 2) := by decide +kernel
theorem dX7_offsetAt_69 : decode cX7_offsetAt 69 = .ok (.aload_n 0, 1) := by decide +kernel
theorem dX7_offsetAt_70 : decode cX7_offsetAt 70 = .ok (.lload_n 2, 1) := by decide +kernel
theorem dX7_offsetAt_71 : decode cX7_offsetAt 71 = .ok (.invokevirtual 228, 3) := by decide +kernel
theorem dX7_offsetAt_74 : decode cX7_offsetAt 74 = .ok (.lstore 7, 2) := by decide +kernel
theorem dX7_offsetAt_76 : decode cX7_offsetAt 76 = .ok (.iconst 0, 1) := by decide +kernel
theorem dX7_offsetAt_77 : decode cX7_offsetAt 77 = .ok (.istore 9, 2) := by decide +kernel
theorem dX7_offsetAt_79 : decode cX7_offsetAt 79 = .ok (.iload 9, 2) := by decide +kernel
theorem dX7_offsetAt_81 : decode cX7_offsetAt 81 = .ok (.aload_n 0, 1) := by decide +kernel
theorem dX7_offsetAt_82 : decode cX7_offsetAt 82 = .ok (.getfield 29, 3) := by decide +kernel
theorem dX7_offsetAt_85 : decode cX7_offsetAt 85 = .ok (.iload_n 1, 1) := by decide +kernel
theorem dX7_offsetAt_86 : decode cX7_offsetAt 86 = .ok (.iaload, 1) := by decide +kernel
theorem dX7_offsetAt_87 : decode cX7_offsetAt 87 = .ok (.if_icmp .ge 100, 3) := by decide +kernel
theorem dX7_offsetAt_90 : decode cX7_offsetAt 90 = .ok (.lload 7, 2) := by decide +kernel
theorem dX7_offsetAt_92 : decode cX7_offsetAt 92 = .ok (.ldc2_w 64, 3) := by decide +kernel
theorem dX7_offsetAt_95 : decode cX7_offsetAt 95 = .ok (.lsub, 1) := by decide +kernel
theorem dX7_offsetAt_96 : decode cX7_offsetAt 96 = .ok (.lstore 10, 2) := by decide +kernel
theorem dX7_offsetAt_98 : decode cX7_offsetAt 98 = .ok (.lload 10, 2) := by decide +kernel
theorem dX7_offsetAt_100 : decode cX7_offsetAt 100 = .ok (.lload 7, 2) := by decide +kernel
theorem dX7_offsetAt_102 : decode cX7_offsetAt 102 = .ok (.lconst 1, 1) := by decide +kernel
theorem dX7_offsetAt_103 : decode cX7_offsetAt 103 = .ok (.ladd, 1) := by decide +kernel
theorem dX7_offsetAt_104 : decode cX7_offsetAt 104 = .ok (.lcmp, 1) := by decide +kernel
theorem dX7_offsetAt_105 : decode cX7_offsetAt 105 = .ok (.ifCond .gt 76, 3) := by decide +kernel
theorem dX7_offsetAt_108 : decode cX7_offsetAt 108 = .ok (.aload_n 0, 1) := by decide +kernel
theorem dX7_offsetAt_109 : decode cX7_offsetAt 109 = .ok (.iload_n 1, 1) := by decide +kernel
theorem dX7_offsetAt_110 : decode cX7_offsetAt 110 = .ok (.bipush 10, 2) := by decide +kernel
theorem dX7_offsetAt_112 : decode cX7_offsetAt 112 = .ok (.iload_n 1, 1) := by decide +kernel
theorem dX7_offsetAt_113 : decode cX7_offsetAt 113 = .ok (.imul, 1) := by decide +kernel
theorem dX7_offsetAt_114 : decode cX7_offsetAt 114 = .ok (.iconst 5, 1) := by decide +kernel
theorem dX7_offsetAt_115 : decode cX7_offsetAt 115 = .ok (.iload 9, 2) := by decide +kernel
theorem dX7_offsetAt_117 : decode cX7_offsetAt 117 = .ok (.imul, 1) := by decide +kernel
theorem dX7_offsetAt_118 : decode cX7_offsetAt 118 = .ok (.iadd, 1) := by decide +kernel
theorem dX7_offsetAt_119 : decode cX7_offsetAt 119 = .ok (.lload 10, 2) := by decide +kernel
theorem dX7_offsetAt_121 : decode cX7_offsetAt 121 = .ok (.invokevirtual 231, 3) := by decide +kernel
theorem dX7_offsetAt_124 : decode cX7_offsetAt 124 = .ok (.lstore 12, 2) := by decide +kernel
theorem dX7_offsetAt_126 : decode cX7_offsetAt 126 = .ok (.lload 12, 2) := by decide +kernel
theorem dX7_offsetAt_128 : decode cX7_offsetAt 128 = .ok (.ldc2_w 206, 3) := by decide +kernel
theorem dX7_offsetAt_131 : decode cX7_offsetAt 131 = .ok (.lcmp, 1) := by decide +kernel
theorem dX7_offsetAt_132 : decode cX7_offsetAt 132 = .ok (.ifCond .eq 40, 3) := by decide +kernel
theorem dX7_offsetAt_135 : decode cX7_offsetAt 135 = .ok (.lload 12, 2) := by decide +kernel
theorem dX7_offsetAt_137 : decode cX7_offsetAt 137 = .ok (.lload_n 2, 1) := by decide +kernel
theorem dX7_offsetAt_138 : decode cX7_offsetAt 138 = .ok (.lcmp, 1) := by decide +kernel
theorem dX7_offsetAt_139 : decode cX7_offsetAt 139 = .ok (.ifCond .gt 33, 3) := by decide +kernel
theorem dX7_offsetAt_142 : decode cX7_offsetAt 142 = .ok (.lload 12, 2) := by decide +kernel
theorem dX7_offsetAt_144 : decode cX7_offsetAt 144 = .ok (.lload 5, 2) := by decide +kernel
theorem dX7_offsetAt_146 : decode cX7_offsetAt 146 = .ok (.lcmp, 1) := by decide +kernel
theorem dX7_offsetAt_147 : decode cX7_offsetAt 147 = .ok (.ifCond .lt 25, 3) := by decide +kernel
theorem dX7_offsetAt_150 : decode cX7_offsetAt 150 = .ok (.lload 12, 2) := by decide +kernel
theorem dX7_offsetAt_152 : decode cX7_offsetAt 152 = .ok (.lstore 5, 2) := by decide +kernel
theorem dX7_offsetAt_154 : decode cX7_offsetAt 154 = .ok (.aload_n 0, 1) := by decide +kernel
theorem dX7_offsetAt_155 : decode cX7_offsetAt 155 = .ok (.getfield 32, 3) := by decide +kernel
theorem dX7_offsetAt_158 : decode cX7_offsetAt 158 = .ok (.bipush 10, 2) := by decide +kernel
theorem dX7_offsetAt_160 : decode cX7_offsetAt 160 = .ok (.iload_n 1, 1) := by decide +kernel
theorem dX7_offsetAt_161 : decode cX7_offsetAt 161 = .ok (.imul, 1) := by decide +kernel
theorem dX7_offsetAt_162 : decode cX7_offsetAt 162 = .ok (.iconst 5, 1) := by decide +kernel
theorem dX7_offsetAt_163 : decode cX7_offsetAt 163 = .ok (.iload 9, 2) := by decide +kernel
theorem dX7_offsetAt_165 : decode cX7_offsetAt 165 = .ok (.imul, 1) := by decide +kernel
theorem dX7_offsetAt_166 : decode cX7_offsetAt 166 = .ok (.iadd, 1) := by decide +kernel
theorem dX7_offsetAt_167 : decode cX7_offsetAt 167 = .ok (.iconst 4, 1) := by decide +kernel
theorem dX7_offsetAt_168 : decode cX7_offsetAt 168 = .ok (.iadd, 1) := by decide +kernel
theorem dX7_offsetAt_169 : decode cX7_offsetAt 169 = .ok (.iaload, 1) := by decide +kernel
theorem dX7_offsetAt_170 : decode cX7_offsetAt 170 = .ok (.istore 4, 2) := by decide +kernel
theorem dX7_offsetAt_172 : decode cX7_offsetAt 172 = .ok (.lload 10, 2) := by decide +kernel
theorem dX7_offsetAt_174 : decode cX7_offsetAt 174 = .ok (.lconst 1, 1) := by decide +kernel
theorem dX7_offsetAt_175 : decode cX7_offsetAt 175 = .ok (.ladd, 1) := by decide +kernel
theorem dX7_offsetAt_176 : decode cX7_offsetAt 176 = .ok (.lstore 10, 2) := by decide +kernel
theorem dX7_offsetAt_178 : decode cX7_offsetAt 178 = .ok (.goto (-80), 3) := by decide +kernel
theorem dX7_offsetAt_181 : decode cX7_offsetAt 181 = .ok (.iinc 9 1, 3) := by decide +kernel
theorem dX7_offsetAt_184 : decode cX7_offsetAt 184 = .ok (.goto (-105), 3) := by decide +kernel
theorem dX7_offsetAt_187 : decode cX7_offsetAt 187 = .ok (.iload 4, 2) := by decide +kernel
theorem dX7_offsetAt_189 : decode cX7_offsetAt 189 = .ok (.ireturn, 1) := by decide +kernel
theorem dX7_offset_0 : decode cX7_offset 0 = .ok (.aload_n 0, 1) := by decide +kernel
theorem dX7_offset_1 : decode cX7_offset 1 = .ok (.iload_n 1, 1) := by decide +kernel
theorem dX7_offset_2 : decode cX7_offset 2 = .ok (.i2l, 1) := by decide +kernel
theorem dX7_offset_3 : decode cX7_offset 3 = .ok (.lconst 0, 1) := by decide +kernel
theorem dX7_offset_4 : decode cX7_offset 4 = .ok (.ldc2_w 90, 3) := by decide +kernel
theorem dX7_offset_7 : decode cX7_offset 7 = .ok (.invokestatic 102, 3) := by decide +kernel
theorem dX7_offset_10 : decode cX7_offset 10 = .ok (.ifCond .eq 14, 3) := by decide +kernel
theorem dX7_offset_13 : decode cX7_offset 13 = .ok (.lload_n 2, 1) := by decide +kernel
theorem dX7_offset_14 : decode cX7_offset 14 = .ok (.invokestatic 220, 3) := by decide +kernel
theorem dX7_offset_17 : decode cX7_offset 17 = .ok (.ifCond .eq 7, 3) := by decide +kernel
theorem dX7_offset_20 : decode cX7_offset 20 = .ok (.iconst 0, 1) := by decide +kernel
theorem dX7_offset_21 : decode cX7_offset 21 = .ok (.goto 4, 3) := by decide +kernel
theorem dX7_offset_24 : decode cX7_offset 24 = .ok (.iconst 1, 1) := by decide +kernel
theorem dX7_offset_25 : decode cX7_offset 25 = .ok (.putfield 41, 3) := by decide +kernel
theorem dX7_offset_28 : decode cX7_offset 28 = .ok (.aload_n 0, 1) := by decide +kernel
theorem dX7_offset_29 : decode cX7_offset 29 = .ok (.getfield 41, 3) := by decide +kernel
theorem dX7_offset_32 : decode cX7_offset 32 = .ok (.ifCond .ne 12, 3) := by decide +kernel
theorem dX7_offset_35 : decode cX7_offset 35 = .ok (.aload_n 0, 1) := by decide +kernel
theorem dX7_offset_36 : decode cX7_offset 36 = .ok (.iload_n 1, 1) := by decide +kernel
theorem dX7_offset_37 : decode cX7_offset 37 = .ok (.lload_n 2, 1) := by decide +kernel
theorem dX7_offset_38 : decode cX7_offset 38 = .ok (.invokevirtual 235, 3) := by decide +kernel
theorem dX7_offset_41 : decode cX7_offset 41 = .ok (.goto 4, 3) := by decide +kernel
theorem dX7_offset_44 : decode cX7_offset 44 = .ok (.iconst 0, 1) := by decide +kernel
theorem dX7_offset_45 : decode cX7_offset 45 = .ok (.ireturn, 1) := by decide +kernel
theorem dX7_possible_0 : decode cX7_possible 0 = .ok (.iload_n 2, 1) := by decide +kernel
theorem dX7_possible_1 : decode cX7_possible 1 = .ok (.ifCond .ne 12, 3) := by decide +kernel
theorem dX7_possible_4 : decode cX7_possible 4 = .ok (.aload_n 0, 1) := by decide +kernel
theorem dX7_possible_5 : decode cX7_possible 5 = .ok (.getfield 16, 3) := by decide +kernel
theorem dX7_possible_8 : decode cX7_possible 8 = .ok (.iload_n 1, 1) := by decide +kernel
theorem dX7_possible_9 : decode cX7_possible 9 = .ok (.iaload, 1) := by decide +kernel
theorem dX7_possible_10 : decode cX7_possible 10 = .ok (.goto 53, 3) := by decide +kernel
theorem dX7_possible_13 : decode cX7_possible 13 = .ok (.iload_n 2, 1) := by decide +kernel
theorem dX7_possible_14 : decode cX7_possible 14 = .ok (.aload_n 0, 1) := by decide +kernel
theorem dX7_possible_15 : decode cX7_possible 15 = .ok (.getfield 20, 3) := by decide +kernel
theorem dX7_possible_18 : decode cX7_possible 18 = .ok (.iload_n 1, 1) := by decide +kernel
theorem dX7_possible_19 : decode cX7_possible 19 = .ok (.iaload, 1) := by decide +kernel
theorem dX7_possible_20 : decode cX7_possible 20 = .ok (.if_icmp .gt 19, 3) := by decide +kernel
theorem dX7_possible_23 : decode cX7_possible 23 = .ok (.aload_n 0, 1) := by decide +kernel
theorem dX7_possible_24 : decode cX7_possible 24 = .ok (.getfield 26, 3) := by decide +kernel
theorem dX7_possible_27 : decode cX7_possible 27 = .ok (.bipush 8, 2) := by decide +kernel
theorem dX7_possible_29 : decode cX7_possible 29 = .ok (.iload_n 1, 1) := by decide +kernel
theorem dX7_possible_30 : decode cX7_possible 30 = .ok (.imul, 1) := by decide +kernel
theorem dX7_possible_31 : decode cX7_possible 31 = .ok (.iload_n 2, 1) := by decide +kernel
theorem dX7_possible_32 : decode cX7_possible 32 = .ok (.iadd, 1) := by decide +kernel
theorem dX7_possible_33 : decode cX7_possible 33 = .ok (.iconst 1, 1) := by decide +kernel
theorem dX7_possible_34 : decode cX7_possible 34 = .ok (.isub, 1) := by decide +kernel
theorem dX7_possible_35 : decode cX7_possible 35 = .ok (.iaload, 1) := by decide +kernel
theorem dX7_possible_36 : decode cX7_possible 36 = .ok (.goto 27, 3) := by decide +kernel
theorem dX7_possible_39 : decode cX7_possible 39 = .ok (.aload_n 0, 1) := by decide +kernel
theorem dX7_possible_40 : decode cX7_possible 40 = .ok (.getfield 32, 3) := by decide +kernel
theorem dX7_possible_43 : decode cX7_possible 43 = .ok (.bipush 10, 2) := by decide +kernel
theorem dX7_possible_45 : decode cX7_possible 45 = .ok (.iload_n 1, 1) := by decide +kernel
theorem dX7_possible_46 : decode cX7_possible 46 = .ok (.imul, 1) := by decide +kernel
theorem dX7_possible_47 : decode cX7_possible 47 = .ok (.iconst 5, 1) := by decide +kernel
theorem dX7_possible_48 : decode cX7_possible 48 = .ok (.iload_n 2, 1) := by decide +kernel
theorem dX7_possible_49 : decode cX7_possible 49 = .ok (.aload_n 0, 1) := by decide +kernel
theorem dX7_possible_50 : decode cX7_possible 50 = .ok (.getfield 20, 3) := by decide +kernel
theorem dX7_possible_53 : decode cX7_possible 53 = .ok (.iload_n 1, 1) := by decide +kernel
theorem dX7_possible_54 : decode cX7_possible 54 = .ok (.iaload, 1) := by decide +kernel
theorem dX7_possible_55 : decode cX7_possible 55 = .ok (.isub, 1) := by decide +kernel
theorem dX7_possible_56 : decode cX7_possible 56 = .ok (.iconst 1, 1) := by decide +kernel
theorem dX7_possible_57 : decode cX7_possible 57 = .ok (.isub, 1) := by decide +kernel
theorem dX7_possible_58 : decode cX7_possible 58 = .ok (.imul, 1) := by decide +kernel
theorem dX7_possible_59 : decode cX7_possible 59 = .ok (.iadd, 1) := by decide +kernel
theorem dX7_possible_60 : decode cX7_possible 60 = .ok (.iconst 4, 1) := by decide +kernel
theorem dX7_possible_61 : decode cX7_possible 61 = .ok (.iadd, 1) := by decide +kernel
theorem dX7_possible_62 : decode cX7_possible 62 = .ok (.iaload, 1) := by decide +kernel
theorem dX7_possible_63 : decode cX7_possible 63 = .ok (.ireturn, 1) := by decide +kernel
theorem dX7_opened_0 : decode cX7_opened 0 = .ok (.lload 4, 2) := by decide +kernel
theorem dX7_opened_2 : decode cX7_opened 2 = .ok (.ldc2_w 206, 3) := by decide +kernel
theorem dX7_opened_5 : decode cX7_opened 5 = .ok (.lcmp, 1) := by decide +kernel
theorem dX7_opened_6 : decode cX7_opened 6 = .ok (.ifCond .eq 40, 3) := by decide +kernel
theorem dX7_opened_9 : decode cX7_opened 9 = .ok (.lload 4, 2) := by decide +kernel
theorem dX7_opened_11 : decode cX7_opened 11 = .ok (.aload_n 0, 1) := by decide +kernel
theorem dX7_opened_12 : decode cX7_opened 12 = .ok (.iload_n 1, 1) := by decide +kernel
theorem dX7_opened_13 : decode cX7_opened 13 = .ok (.lload 4, 2) := by decide +kernel
theorem dX7_opened_15 : decode cX7_opened 15 = .ok (.invokevirtual 235, 3) := by decide +kernel
theorem dX7_opened_18 : decode cX7_opened 18 = .ok (.i2l, 1) := by decide +kernel
theorem dX7_opened_19 : decode cX7_opened 19 = .ok (.ladd, 1) := by decide +kernel
theorem dX7_opened_20 : decode cX7_opened 20 = .ok (.lload_n 2, 1) := by decide +kernel
theorem dX7_opened_21 : decode cX7_opened 21 = .ok (.lcmp, 1) := by decide +kernel
theorem dX7_opened_22 : decode cX7_opened 22 = .ok (.ifCond .le 24, 3) := by decide +kernel
theorem dX7_opened_25 : decode cX7_opened 25 = .ok (.lload 6, 2) := by decide +kernel
theorem dX7_opened_27 : decode cX7_opened 27 = .ok (.ldc2_w 206, 3) := by decide +kernel
theorem dX7_opened_30 : decode cX7_opened 30 = .ok (.lcmp, 1) := by decide +kernel
theorem dX7_opened_31 : decode cX7_opened 31 = .ok (.ifCond .eq 11, 3) := by decide +kernel
theorem dX7_opened_34 : decode cX7_opened 34 = .ok (.lload 4, 2) := by decide +kernel
theorem dX7_opened_36 : decode cX7_opened 36 = .ok (.lload 6, 2) := by decide +kernel
theorem dX7_opened_38 : decode cX7_opened 38 = .ok (.lcmp, 1) := by decide +kernel
theorem dX7_opened_39 : decode cX7_opened 39 = .ok (.ifCond .ge 7, 3) := by decide +kernel
theorem dX7_opened_42 : decode cX7_opened 42 = .ok (.iconst 1, 1) := by decide +kernel
theorem dX7_opened_43 : decode cX7_opened 43 = .ok (.goto 4, 3) := by decide +kernel
theorem dX7_opened_46 : decode cX7_opened 46 = .ok (.iconst 0, 1) := by decide +kernel
theorem dX7_opened_47 : decode cX7_opened 47 = .ok (.istore 8, 2) := by decide +kernel
theorem dX7_opened_49 : decode cX7_opened 49 = .ok (.iload 8, 2) := by decide +kernel
theorem dX7_opened_51 : decode cX7_opened 51 = .ok (.ifCond .eq 8, 3) := by decide +kernel
theorem dX7_opened_54 : decode cX7_opened 54 = .ok (.lload 4, 2) := by decide +kernel
theorem dX7_opened_56 : decode cX7_opened 56 = .ok (.goto 5, 3) := by decide +kernel
theorem dX7_opened_59 : decode cX7_opened 59 = .ok (.lload 6, 2) := by decide +kernel
theorem dX7_opened_61 : decode cX7_opened 61 = .ok (.lreturn, 1) := by decide +kernel
theorem dX7_moment_0 : decode cX7_moment 0 = .ok (.aload_n 0, 1) := by decide +kernel
theorem dX7_moment_1 : decode cX7_moment 1 = .ok (.iload_n 1, 1) := by decide +kernel
theorem dX7_moment_2 : decode cX7_moment 2 = .ok (.invokevirtual 120, 3) := by decide +kernel
theorem dX7_moment_5 : decode cX7_moment 5 = .ok (.ifCond .ne 5, 3) := by decide +kernel
theorem dX7_moment_8 : decode cX7_moment 8 = .ok (.lconst 0, 1) := by decide +kernel
theorem dX7_moment_9 : decode cX7_moment 9 = .ok (.lreturn, 1) := by decide +kernel
theorem dX7_moment_10 : decode cX7_moment 10 = .ok (.aload_n 0, 1) := by decide +kernel
theorem dX7_moment_11 : decode cX7_moment 11 = .ok (.iload_n 2, 1) := by decide +kernel
theorem dX7_moment_12 : decode cX7_moment 12 = .ok (.i2l, 1) := by decide +kernel
theorem dX7_moment_13 : decode cX7_moment 13 = .ok (.lconst 0, 1) := by decide +kernel
theorem dX7_moment_14 : decode cX7_moment 14 = .ok (.ldc2_w 90, 3) := by decide +kernel
theorem dX7_moment_17 : decode cX7_moment 17 = .ok (.invokestatic 102, 3) := by decide +kernel
theorem dX7_moment_20 : decode cX7_moment 20 = .ok (.ifCond .eq 7, 3) := by decide +kernel
theorem dX7_moment_23 : decode cX7_moment 23 = .ok (.iconst 0, 1) := by decide +kernel
theorem dX7_moment_24 : decode cX7_moment 24 = .ok (.goto 4, 3) := by decide +kernel
theorem dX7_moment_27 : decode cX7_moment 27 = .ok (.iconst 2, 1) := by decide +kernel
theorem dX7_moment_28 : decode cX7_moment 28 = .ok (.putfield 41, 3) := by decide +kernel
theorem dX7_moment_31 : decode cX7_moment 31 = .ok (.aload_n 0, 1) := by decide +kernel
theorem dX7_moment_32 : decode cX7_moment 32 = .ok (.getfield 41, 3) := by decide +kernel
theorem dX7_moment_35 : decode cX7_moment 35 = .ok (.ifCond .le 5, 3) := by decide +kernel
theorem dX7_moment_38 : decode cX7_moment 38 = .ok (.lconst 0, 1) := by decide +kernel
theorem dX7_moment_39 : decode cX7_moment 39 = .ok (.lreturn, 1) := by decide +kernel
theorem dX7_moment_40 : decode cX7_moment 40 = .ok (.ldc2_w 171, 3) := by decide +kernel
theorem dX7_moment_43 : decode cX7_moment 43 = .ok (.aload_n 0, 1) := by decide +kernel
theorem dX7_moment_44 : decode cX7_moment 44 = .ok (.getfield 7, 3) := by decide +kernel
theorem dX7_moment_47 : decode cX7_moment 47 = .ok (.iload_n 1, 1) := by decide +kernel
theorem dX7_moment_48 : decode cX7_moment 48 = .ok (.laload, 1) := by decide +kernel
theorem dX7_moment_49 : decode cX7_moment 49 = .ok (.lmul, 1) := by decide +kernel
theorem dX7_moment_50 : decode cX7_moment 50 = .ok (.aload_n 0, 1) := by decide +kernel
theorem dX7_moment_51 : decode cX7_moment 51 = .ok (.getfield 13, 3) := by decide +kernel
theorem dX7_moment_54 : decode cX7_moment 54 = .ok (.iload_n 1, 1) := by decide +kernel
theorem dX7_moment_55 : decode cX7_moment 55 = .ok (.laload, 1) := by decide +kernel
theorem dX7_moment_56 : decode cX7_moment 56 = .ok (.ldc2_w 134, 3) := by decide +kernel
theorem dX7_moment_59 : decode cX7_moment 59 = .ok (.ldiv, 1) := by decide +kernel
theorem dX7_moment_60 : decode cX7_moment 60 = .ok (.ladd, 1) := by decide +kernel
theorem dX7_moment_61 : decode cX7_moment 61 = .ok (.lstore 4, 2) := by decide +kernel
theorem dX7_moment_63 : decode cX7_moment 63 = .ok (.ldc2_w 206, 3) := by decide +kernel
theorem dX7_moment_66 : decode cX7_moment 66 = .ok (.lstore 6, 2) := by decide +kernel
theorem dX7_moment_68 : decode cX7_moment 68 = .ok (.iconst 0, 1) := by decide +kernel
theorem dX7_moment_69 : decode cX7_moment 69 = .ok (.istore 8, 2) := by decide +kernel
theorem dX7_moment_71 : decode cX7_moment 71 = .ok (.iload 8, 2) := by decide +kernel
theorem dX7_moment_73 : decode cX7_moment 73 = .ok (.iconst 1, 1) := by decide +kernel
theorem dX7_moment_74 : decode cX7_moment 74 = .ok (.aload_n 0, 1) := by decide +kernel
theorem dX7_moment_75 : decode cX7_moment 75 = .ok (.getfield 20, 3) := by decide +kernel
theorem dX7_moment_78 : decode cX7_moment 78 = .ok (.iload_n 2, 1) := by decide +kernel
theorem dX7_moment_79 : decode cX7_moment 79 = .ok (.iaload, 1) := by decide +kernel
theorem dX7_moment_80 : decode cX7_moment 80 = .ok (.iadd, 1) := by decide +kernel
theorem dX7_moment_81 : decode cX7_moment 81 = .ok (.aload_n 0, 1) := by decide +kernel
theorem dX7_moment_82 : decode cX7_moment 82 = .ok (.getfield 29, 3) := by decide +kernel
theorem dX7_moment_85 : decode cX7_moment 85 = .ok (.iload_n 2, 1) := by decide +kernel
theorem dX7_moment_86 : decode cX7_moment 86 = .ok (.iaload, 1) := by decide +kernel
theorem dX7_moment_87 : decode cX7_moment 87 = .ok (.iadd, 1) := by decide +kernel
theorem dX7_moment_88 : decode cX7_moment 88 = .ok (.if_icmp .ge 75, 3) := by decide +kernel
theorem dX7_moment_91 : decode cX7_moment 91 = .ok (.lload 4, 2) := by decide +kernel
theorem dX7_moment_93 : decode cX7_moment 93 = .ok (.aload_n 0, 1) := by decide +kernel
theorem dX7_moment_94 : decode cX7_moment 94 = .ok (.iload_n 2, 1) := by decide +kernel
theorem dX7_moment_95 : decode cX7_moment 95 = .ok (.iload 8, 2) := by decide +kernel
theorem dX7_moment_97 : decode cX7_moment 97 = .ok (.invokevirtual 239, 3) := by decide +kernel
theorem dX7_moment_100 : decode cX7_moment 100 = .ok (.i2l, 1) := by decide +kernel
theorem dX7_moment_101 : decode cX7_moment 101 = .ok (.lsub, 1) := by decide +kernel
theorem dX7_moment_102 : decode cX7_moment 102 = .ok (.lstore 9, 2) := by decide +kernel
theorem dX7_moment_104 : decode cX7_moment 104 = .ok (.aload_n 0, 1) := by decide +kernel
theorem dX7_moment_105 : decode cX7_moment 105 = .ok (.iload_n 2, 1) := by decide +kernel
theorem dX7_moment_106 : decode cX7_moment 106 = .ok (.lload 9, 2) := by decide +kernel
theorem dX7_moment_108 : decode cX7_moment 108 = .ok (.invokevirtual 235, 3) := by decide +kernel
theorem dX7_moment_111 : decode cX7_moment 111 = .ok (.aload_n 0, 1) := by decide +kernel
theorem dX7_moment_112 : decode cX7_moment 112 = .ok (.iload_n 2, 1) := by decide +kernel
theorem dX7_moment_113 : decode cX7_moment 113 = .ok (.iload 8, 2) := by decide +kernel
theorem dX7_moment_115 : decode cX7_moment 115 = .ok (.invokevirtual 239, 3) := by decide +kernel
theorem dX7_moment_118 : decode cX7_moment 118 = .ok (.if_icmp .ne 39, 3) := by decide +kernel
theorem dX7_moment_121 : decode cX7_moment 121 = .ok (.lload 6, 2) := by decide +kernel
theorem dX7_moment_123 : decode cX7_moment 123 = .ok (.ldc2_w 206, 3) := by decide +kernel
theorem dX7_moment_126 : decode cX7_moment 126 = .ok (.lcmp, 1) := by decide +kernel
theorem dX7_moment_127 : decode cX7_moment 127 = .ok (.ifCond .eq 26, 3) := by decide +kernel
theorem dX7_moment_130 : decode cX7_moment 130 = .ok (.iload_n 3, 1) := by decide +kernel
theorem dX7_moment_131 : decode cX7_moment 131 = .ok (.ifCond .eq 14, 3) := by decide +kernel
theorem dX7_moment_134 : decode cX7_moment 134 = .ok (.lload 9, 2) := by decide +kernel
theorem dX7_moment_136 : decode cX7_moment 136 = .ok (.lload 6, 2) := by decide +kernel
theorem dX7_moment_138 : decode cX7_moment 138 = .ok (.lcmp, 1) := by decide +kernel
theorem dX7_moment_139 : decode cX7_moment 139 = .ok (.ifCond .le 18, 3) := by decide +kernel
theorem dX7_moment_142 : decode cX7_moment 142 = .ok (.goto 11, 3) := by decide +kernel
theorem dX7_moment_145 : decode cX7_moment 145 = .ok (.lload 9, 2) := by decide +kernel
theorem dX7_moment_147 : decode cX7_moment 147 = .ok (.lload 6, 2) := by decide +kernel
theorem dX7_moment_149 : decode cX7_moment 149 = .ok (.lcmp, 1) := by decide +kernel
theorem dX7_moment_150 : decode cX7_moment 150 = .ok (.ifCond .ge 7, 3) := by decide +kernel
theorem dX7_moment_153 : decode cX7_moment 153 = .ok (.lload 9, 2) := by decide +kernel
theorem dX7_moment_155 : decode cX7_moment 155 = .ok (.lstore 6, 2) := by decide +kernel
theorem dX7_moment_157 : decode cX7_moment 157 = .ok (.iinc 8 1, 3) := by decide +kernel
theorem dX7_moment_160 : decode cX7_moment 160 = .ok (.goto (-89), 3) := by decide +kernel
theorem dX7_moment_163 : decode cX7_moment 163 = .ok (.lload 6, 2) := by decide +kernel
theorem dX7_moment_165 : decode cX7_moment 165 = .ok (.ldc2_w 206, 3) := by decide +kernel
theorem dX7_moment_168 : decode cX7_moment 168 = .ok (.lcmp, 1) := by decide +kernel
theorem dX7_moment_169 : decode cX7_moment 169 = .ok (.ifCond .eq 6, 3) := by decide +kernel
theorem dX7_moment_172 : decode cX7_moment 172 = .ok (.lload 6, 2) := by decide +kernel
theorem dX7_moment_174 : decode cX7_moment 174 = .ok (.lreturn, 1) := by decide +kernel
theorem dX7_moment_175 : decode cX7_moment 175 = .ok (.ldc2_w 206, 3) := by decide +kernel
theorem dX7_moment_178 : decode cX7_moment 178 = .ok (.lstore 8, 2) := by decide +kernel
theorem dX7_moment_180 : decode cX7_moment 180 = .ok (.iconst 0, 1) := by decide +kernel
theorem dX7_moment_181 : decode cX7_moment 181 = .ok (.istore 10, 2) := by decide +kernel
theorem dX7_moment_183 : decode cX7_moment 183 = .ok (.iload 10, 2) := by decide +kernel
theorem dX7_moment_185 : decode cX7_moment 185 = .ok (.aload_n 0, 1) := by decide +kernel
theorem dX7_moment_186 : decode cX7_moment 186 = .ok (.getfield 20, 3) := by decide +kernel
theorem dX7_moment_189 : decode cX7_moment 189 = .ok (.iload_n 2, 1) := by decide +kernel
theorem dX7_moment_190 : decode cX7_moment 190 = .ok (.iaload, 1) := by decide +kernel
theorem dX7_moment_191 : decode cX7_moment 191 = .ok (.if_icmp .ge 32, 3) := by decide +kernel
theorem dX7_moment_194 : decode cX7_moment 194 = .ok (.aload_n 0, 1) := by decide +kernel
theorem dX7_moment_195 : decode cX7_moment 195 = .ok (.iload_n 2, 1) := by decide +kernel
theorem dX7_moment_196 : decode cX7_moment 196 = .ok (.lload 4, 2) := by decide +kernel
theorem dX7_moment_198 : decode cX7_moment 198 = .ok (.aload_n 0, 1) := by decide +kernel
theorem dX7_moment_199 : decode cX7_moment 199 = .ok (.getfield 23, 3) := by decide +kernel
theorem dX7_moment_202 : decode cX7_moment 202 = .ok (.bipush 8, 2) := by decide +kernel
theorem dX7_moment_204 : decode cX7_moment 204 = .ok (.iload_n 2, 1) := by decide +kernel
theorem dX7_moment_205 : decode cX7_moment 205 = .ok (.imul, 1) := by decide +kernel
theorem dX7_moment_206 : decode cX7_moment 206 = .ok (.iload 10, 2) := by decide +kernel
