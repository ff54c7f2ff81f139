theorem dX7_plus_274 : decode cX7_plus 274 = .ok (.getfield 41, 3) := by decide +kernel
theorem dX7_plus_277 : decode cX7_plus 277 = .ok (.ifCond .ne 26, 3) := by decide +kernel
theorem dX7_plus_280 : decode cX7_plus 280 = .ok (.aload_n 0, 1) := by decide +kernel
theorem dX7_plus_281 : decode cX7_plus 281 = .ok (.getfield 7, 3) := by decide +kernel
theorem dX7_plus_284 : decode cX7_plus 284 = .ok (.iload_n 1, 1) := by decide +kernel
theorem dX7_plus_285 : decode cX7_plus 285 = .ok (.lload 5, 2) := by decide +kernel
theorem dX7_plus_287 : decode cX7_plus 287 = .ok (.lload 9, 2) := by decide +kernel
theorem dX7_plus_289 : decode cX7_plus 289 = .ok (.ladd, 1) := by decide +kernel
theorem dX7_plus_290 : decode cX7_plus 290 = .ok (.lastore, 1) := by decide +kernel
theorem dX7_plus_291 : decode cX7_plus 291 = .ok (.aload_n 0, 1) := by decide +kernel
theorem dX7_plus_292 : decode cX7_plus 292 = .ok (.getfield 13, 3) := by decide +kernel
theorem dX7_plus_295 : decode cX7_plus 295 = .ok (.iload_n 1, 1) := by decide +kernel
theorem dX7_plus_296 : decode cX7_plus 296 = .ok (.lload 11, 2) := by decide +kernel
theorem dX7_plus_298 : decode cX7_plus 298 = .ok (.ldc2_w 173, 3) := by decide +kernel
theorem dX7_plus_301 : decode cX7_plus 301 = .ok (.lrem, 1) := by decide +kernel
theorem dX7_plus_302 : decode cX7_plus 302 = .ok (.lastore, 1) := by decide +kernel
theorem dX7_plus_303 : decode cX7_plus 303 = .ok (.return_, 1) := by decide +kernel
theorem dX7_monthsTo_0 : decode cX7_monthsTo 0 = .ok (.aload_n 0, 1) := by decide +kernel
theorem dX7_monthsTo_1 : decode cX7_monthsTo 1 = .ok (.lload_n 1, 1) := by decide +kernel
theorem dX7_monthsTo_2 : decode cX7_monthsTo 2 = .ok (.invokevirtual 191, 3) := by decide +kernel
theorem dX7_monthsTo_5 : decode cX7_monthsTo 5 = .ok (.lneg, 1) := by decide +kernel
theorem dX7_monthsTo_6 : decode cX7_monthsTo 6 = .ok (.lstore 9, 2) := by decide +kernel
theorem dX7_monthsTo_8 : decode cX7_monthsTo 8 = .ok (.aload_n 0, 1) := by decide +kernel
theorem dX7_monthsTo_9 : decode cX7_monthsTo 9 = .ok (.getfield 80, 3) := by decide +kernel
theorem dX7_monthsTo_12 : decode cX7_monthsTo 12 = .ok (.istore 11, 2) := by decide +kernel
theorem dX7_monthsTo_14 : decode cX7_monthsTo 14 = .ok (.lload 9, 2) := by decide +kernel
theorem dX7_monthsTo_16 : decode cX7_monthsTo 16 = .ok (.aload_n 0, 1) := by decide +kernel
theorem dX7_monthsTo_17 : decode cX7_monthsTo 17 = .ok (.lload 5, 2) := by decide +kernel
theorem dX7_monthsTo_19 : decode cX7_monthsTo 19 = .ok (.invokevirtual 191, 3) := by decide +kernel
theorem dX7_monthsTo_22 : decode cX7_monthsTo 22 = .ok (.ladd, 1) := by decide +kernel
theorem dX7_monthsTo_23 : decode cX7_monthsTo 23 = .ok (.lstore 9, 2) := by decide +kernel
theorem dX7_monthsTo_25 : decode cX7_monthsTo 25 = .ok (.aload_n 0, 1) := by decide +kernel
theorem dX7_monthsTo_26 : decode cX7_monthsTo 26 = .ok (.getfield 80, 3) := by decide +kernel
theorem dX7_monthsTo_29 : decode cX7_monthsTo 29 = .ok (.iload 11, 2) := by decide +kernel
theorem dX7_monthsTo_31 : decode cX7_monthsTo 31 = .ok (.if_icmp .gt 19, 3) := by decide +kernel
theorem dX7_monthsTo_34 : decode cX7_monthsTo 34 = .ok (.aload_n 0, 1) := by decide +kernel
theorem dX7_monthsTo_35 : decode cX7_monthsTo 35 = .ok (.getfield 80, 3) := by decide +kernel
theorem dX7_monthsTo_38 : decode cX7_monthsTo 38 = .ok (.iload 11, 2) := by decide +kernel
theorem dX7_monthsTo_40 : decode cX7_monthsTo 40 = .ok (.if_icmp .ne 14, 3) := by decide +kernel
theorem dX7_monthsTo_43 : decode cX7_monthsTo 43 = .ok (.lload 7, 2) := by decide +kernel
theorem dX7_monthsTo_45 : decode cX7_monthsTo 45 = .ok (.lload_n 3, 1) := by decide +kernel
theorem dX7_monthsTo_46 : decode cX7_monthsTo 46 = .ok (.lcmp, 1) := by decide +kernel
theorem dX7_monthsTo_47 : decode cX7_monthsTo 47 = .ok (.ifCond .le 7, 3) := by decide +kernel
theorem dX7_monthsTo_50 : decode cX7_monthsTo 50 = .ok (.iconst 1, 1) := by decide +kernel
theorem dX7_monthsTo_51 : decode cX7_monthsTo 51 = .ok (.goto 4, 3) := by decide +kernel
theorem dX7_monthsTo_54 : decode cX7_monthsTo 54 = .ok (.iconst 0, 1) := by decide +kernel
theorem dX7_monthsTo_55 : decode cX7_monthsTo 55 = .ok (.istore 12, 2) := by decide +kernel
theorem dX7_monthsTo_57 : decode cX7_monthsTo 57 = .ok (.aload_n 0, 1) := by decide +kernel
theorem dX7_monthsTo_58 : decode cX7_monthsTo 58 = .ok (.getfield 80, 3) := by decide +kernel
theorem dX7_monthsTo_61 : decode cX7_monthsTo 61 = .ok (.iload 11, 2) := by decide +kernel
theorem dX7_monthsTo_63 : decode cX7_monthsTo 63 = .ok (.if_icmp .lt 19, 3) := by decide +kernel
theorem dX7_monthsTo_66 : decode cX7_monthsTo 66 = .ok (.aload_n 0, 1) := by decide +kernel
theorem dX7_monthsTo_67 : decode cX7_monthsTo 67 = .ok (.getfield 80, 3) := by decide +kernel
theorem dX7_monthsTo_70 : decode cX7_monthsTo 70 = .ok (.iload 11, 2) := by decide +kernel
theorem dX7_monthsTo_72 : decode cX7_monthsTo 72 = .ok (.if_icmp .ne 14, 3) := by decide +kernel
theorem dX7_monthsTo_75 : decode cX7_monthsTo 75 = .ok (.lload 7, 2) := by decide +kernel
theorem dX7_monthsTo_77 : decode cX7_monthsTo 77 = .ok (.lload_n 3, 1) := by decide +kernel
theorem dX7_monthsTo_78 : decode cX7_monthsTo 78 = .ok (.lcmp, 1) := by decide +kernel
theorem dX7_monthsTo_79 : decode cX7_monthsTo 79 = .ok (.ifCond .ge 7, 3) := by decide +kernel
theorem dX7_monthsTo_82 : decode cX7_monthsTo 82 = .ok (.iconst 1, 1) := by decide +kernel
theorem dX7_monthsTo_83 : decode cX7_monthsTo 83 = .ok (.goto 4, 3) := by decide +kernel
theorem dX7_monthsTo_86 : decode cX7_monthsTo 86 = .ok (.iconst 0, 1) := by decide +kernel
theorem dX7_monthsTo_87 : decode cX7_monthsTo 87 = .ok (.istore 13, 2) := by decide +kernel
theorem dX7_monthsTo_89 : decode cX7_monthsTo 89 = .ok (.lload 5, 2) := by decide +kernel
theorem dX7_monthsTo_91 : decode cX7_monthsTo 91 = .ok (.lload_n 1, 1) := by decide +kernel
theorem dX7_monthsTo_92 : decode cX7_monthsTo 92 = .ok (.lcmp, 1) := by decide +kernel
theorem dX7_monthsTo_93 : decode cX7_monthsTo 93 = .ok (.ifCond .gt 17, 3) := by decide +kernel
theorem dX7_monthsTo_96 : decode cX7_monthsTo 96 = .ok (.lload 5, 2) := by decide +kernel
theorem dX7_monthsTo_98 : decode cX7_monthsTo 98 = .ok (.lload_n 1, 1) := by decide +kernel
theorem dX7_monthsTo_99 : decode cX7_monthsTo 99 = .ok (.lcmp, 1) := by decide +kernel
theorem dX7_monthsTo_100 : decode cX7_monthsTo 100 = .ok (.ifCond .ne 14, 3) := by decide +kernel
theorem dX7_monthsTo_103 : decode cX7_monthsTo 103 = .ok (.lload 7, 2) := by decide +kernel
theorem dX7_monthsTo_105 : decode cX7_monthsTo 105 = .ok (.lload_n 3, 1) := by decide +kernel
theorem dX7_monthsTo_106 : decode cX7_monthsTo 106 = .ok (.lcmp, 1) := by decide +kernel
theorem dX7_monthsTo_107 : decode cX7_monthsTo 107 = .ok (.ifCond .le 7, 3) := by decide +kernel
theorem dX7_monthsTo_110 : decode cX7_monthsTo 110 = .ok (.iconst 1, 1) := by decide +kernel
theorem dX7_monthsTo_111 : decode cX7_monthsTo 111 = .ok (.goto 4, 3) := by decide +kernel
theorem dX7_monthsTo_114 : decode cX7_monthsTo 114 = .ok (.iconst 0, 1) := by decide +kernel
theorem dX7_monthsTo_115 : decode cX7_monthsTo 115 = .ok (.istore 14, 2) := by decide +kernel
theorem dX7_monthsTo_117 : decode cX7_monthsTo 117 = .ok (.lload 5, 2) := by decide +kernel
theorem dX7_monthsTo_119 : decode cX7_monthsTo 119 = .ok (.lload_n 1, 1) := by decide +kernel
theorem dX7_monthsTo_120 : decode cX7_monthsTo 120 = .ok (.lcmp, 1) := by decide +kernel
theorem dX7_monthsTo_121 : decode cX7_monthsTo 121 = .ok (.ifCond .lt 17, 3) := by decide +kernel
theorem dX7_monthsTo_124 : decode cX7_monthsTo 124 = .ok (.lload 5, 2) := by decide +kernel
theorem dX7_monthsTo_126 : decode cX7_monthsTo 126 = .ok (.lload_n 1, 1) := by decide +kernel
theorem dX7_monthsTo_127 : decode cX7_monthsTo 127 = .ok (.lcmp, 1) := by decide +kernel
theorem dX7_monthsTo_128 : decode cX7_monthsTo 128 = .ok (.ifCond .ne 14, 3) := by decide +kernel
theorem dX7_monthsTo_131 : decode cX7_monthsTo 131 = .ok (.lload 7, 2) := by decide +kernel
theorem dX7_monthsTo_133 : decode cX7_monthsTo 133 = .ok (.lload_n 3, 1) := by decide +kernel
theorem dX7_monthsTo_134 : decode cX7_monthsTo 134 = .ok (.lcmp, 1) := by decide +kernel
theorem dX7_monthsTo_135 : decode cX7_monthsTo 135 = .ok (.ifCond .ge 7, 3) := by decide +kernel
theorem dX7_monthsTo_138 : decode cX7_monthsTo 138 = .ok (.iconst 1, 1) := by decide +kernel
theorem dX7_monthsTo_139 : decode cX7_monthsTo 139 = .ok (.goto 4, 3) := by decide +kernel
theorem dX7_monthsTo_142 : decode cX7_monthsTo 142 = .ok (.iconst 0, 1) := by decide +kernel
theorem dX7_monthsTo_143 : decode cX7_monthsTo 143 = .ok (.istore 15, 2) := by decide +kernel
theorem dX7_monthsTo_145 : decode cX7_monthsTo 145 = .ok (.iload 14, 2) := by decide +kernel
theorem dX7_monthsTo_147 : decode cX7_monthsTo 147 = .ok (.ifCond .eq 15, 3) := by decide +kernel
theorem dX7_monthsTo_150 : decode cX7_monthsTo 150 = .ok (.iload 13, 2) := by decide +kernel
theorem dX7_monthsTo_152 : decode cX7_monthsTo 152 = .ok (.ifCond .eq 10, 3) := by decide +kernel
theorem dX7_monthsTo_155 : decode cX7_monthsTo 155 = .ok (.lload 9, 2) := by decide +kernel
theorem dX7_monthsTo_157 : decode cX7_monthsTo 157 = .ok (.lconst 1, 1) := by decide +kernel
theorem dX7_monthsTo_158 : decode cX7_monthsTo 158 = .ok (.lsub, 1) := by decide +kernel
theorem dX7_monthsTo_159 : decode cX7_monthsTo 159 = .ok (.goto 22, 3) := by decide +kernel
theorem dX7_monthsTo_162 : decode cX7_monthsTo 162 = .ok (.iload 15, 2) := by decide +kernel
theorem dX7_monthsTo_164 : decode cX7_monthsTo 164 = .ok (.ifCond .eq 15, 3) := by decide +kernel
theorem dX7_monthsTo_167 : decode cX7_monthsTo 167 = .ok (.iload 12, 2) := by decide +kernel
theorem dX7_monthsTo_169 : decode cX7_monthsTo 169 = .ok (.ifCond .eq 10, 3) := by decide +kernel
theorem dX7_monthsTo_172 : decode cX7_monthsTo 172 = .ok (.lload 9, 2) := by decide +kernel
theorem dX7_monthsTo_174 : decode cX7_monthsTo 174 = .ok (.lconst 1, 1) := by decide +kernel
theorem dX7_monthsTo_175 : decode cX7_monthsTo 175 = .ok (.ladd, 1) := by decide +kernel
theorem dX7_monthsTo_176 : decode cX7_monthsTo 176 = .ok (.goto 5, 3) := by decide +kernel
theorem dX7_monthsTo_179 : decode cX7_monthsTo 179 = .ok (.lload 9, 2) := by decide +kernel
theorem dX7_monthsTo_181 : decode cX7_monthsTo 181 = .ok (.lreturn, 1) := by decide +kernel
theorem dX7_until_0 : decode cX7_until 0 = .ok (.aload_n 0, 1) := by decide +kernel
theorem dX7_until_1 : decode cX7_until 1 = .ok (.iload_n 1, 1) := by decide +kernel
theorem dX7_until_2 : decode cX7_until 2 = .ok (.invokevirtual 120, 3) := by decide +kernel
theorem dX7_until_5 : decode cX7_until 5 = .ok (.ifCond .eq 11, 3) := by decide +kernel
theorem dX7_until_8 : decode cX7_until 8 = .ok (.aload_n 0, 1) := by decide +kernel
theorem dX7_until_9 : decode cX7_until 9 = .ok (.iload_n 2, 1) := by decide +kernel
theorem dX7_until_10 : decode cX7_until 10 = .ok (.invokevirtual 120, 3) := by decide +kernel
theorem dX7_until_13 : decode cX7_until 13 = .ok (.ifCond .ne 5, 3) := by decide +kernel
theorem dX7_until_16 : decode cX7_until 16 = .ok (.lconst 0, 1) := by decide +kernel
theorem dX7_until_17 : decode cX7_until 17 = .ok (.lreturn, 1) := by decide +kernel
theorem dX7_until_18 : decode cX7_until 18 = .ok (.aload_n 0, 1) := by decide +kernel
theorem dX7_until_19 : decode cX7_until 19 = .ok (.iload_n 3, 1) := by decide +kernel
theorem dX7_until_20 : decode cX7_until 20 = .ok (.i2l, 1) := by decide +kernel
theorem dX7_until_21 : decode cX7_until 21 = .ok (.lconst 0, 1) := by decide +kernel
theorem dX7_until_22 : decode cX7_until 22 = .ok (.ldc2_w 185, 3) := by decide +kernel
theorem dX7_until_25 : decode cX7_until 25 = .ok (.invokestatic 102, 3) := by decide +kernel
theorem dX7_until_28 : decode cX7_until 28 = .ok (.ifCond .eq 7, 3) := by decide +kernel
theorem dX7_until_31 : decode cX7_until 31 = .ok (.iconst 0, 1) := by decide +kernel
theorem dX7_until_32 : decode cX7_until 32 = .ok (.goto 4, 3) := by decide +kernel
theorem dX7_until_35 : decode cX7_until 35 = .ok (.iconst 2, 1) := by decide +kernel
theorem dX7_until_36 : decode cX7_until 36 = .ok (.putfield 41, 3) := by decide +kernel
theorem dX7_until_39 : decode cX7_until 39 = .ok (.aload_n 0, 1) := by decide +kernel
theorem dX7_until_40 : decode cX7_until 40 = .ok (.getfield 41, 3) := by decide +kernel
theorem dX7_until_43 : decode cX7_until 43 = .ok (.ifCond .le 5, 3) := by decide +kernel
theorem dX7_until_46 : decode cX7_until 46 = .ok (.lconst 0, 1) := by decide +kernel
theorem dX7_until_47 : decode cX7_until 47 = .ok (.lreturn, 1) := by decide +kernel
theorem dX7_until_48 : decode cX7_until 48 = .ok (.iload_n 3, 1) := by decide +kernel
theorem dX7_until_49 : decode cX7_until 49 = .ok (.bipush 8, 2) := by decide +kernel
theorem dX7_until_51 : decode cX7_until 51 = .ok (.if_icmp .le 37, 3) := by decide +kernel
theorem dX7_until_54 : decode cX7_until 54 = .ok (.aload_n 0, 1) := by decide +kernel
theorem dX7_until_55 : decode cX7_until 55 = .ok (.aload_n 0, 1) := by decide +kernel
theorem dX7_until_56 : decode cX7_until 56 = .ok (.getfield 7, 3) := by decide +kernel
theorem dX7_until_59 : decode cX7_until 59 = .ok (.iload_n 1, 1) := by decide +kernel
theorem dX7_until_60 : decode cX7_until 60 = .ok (.laload, 1) := by decide +kernel
theorem dX7_until_61 : decode cX7_until 61 = .ok (.aload_n 0, 1) := by decide +kernel
theorem dX7_until_62 : decode cX7_until 62 = .ok (.getfield 13, 3) := by decide +kernel
theorem dX7_until_65 : decode cX7_until 65 = .ok (.iload_n 1, 1) := by decide +kernel
theorem dX7_until_66 : decode cX7_until 66 = .ok (.laload, 1) := by decide +kernel
theorem dX7_until_67 : decode cX7_until 67 = .ok (.aload_n 0, 1) := by decide +kernel
theorem dX7_until_68 : decode cX7_until 68 = .ok (.getfield 7, 3) := by decide +kernel
theorem dX7_until_71 : decode cX7_until 71 = .ok (.iload_n 2, 1) := by decide +kernel
theorem dX7_until_72 : decode cX7_until 72 = .ok (.laload, 1) := by decide +kernel
theorem dX7_until_73 : decode cX7_until 73 = .ok (.aload_n 0, 1) := by decide +kernel
theorem dX7_until_74 : decode cX7_until 74 = .ok (.getfield 13, 3) := by decide +kernel
theorem dX7_until_77 : decode cX7_until 77 = .ok (.iload_n 2, 1) := by decide +kernel
theorem dX7_until_78 : decode cX7_until 78 = .ok (.laload, 1) := by decide +kernel
theorem dX7_until_79 : decode cX7_until 79 = .ok (.invokevirtual 202, 3) := by decide +kernel
theorem dX7_until_82 : decode cX7_until 82 = .ok (.iload_n 3, 1) := by decide +kernel
theorem dX7_until_83 : decode cX7_until 83 = .ok (.invokestatic 195, 3) := by decide +kernel
theorem dX7_until_86 : decode cX7_until 86 = .ok (.ldiv, 1) := by decide +kernel
theorem dX7_until_87 : decode cX7_until 87 = .ok (.lreturn, 1) := by decide +kernel
theorem dX7_until_88 : decode cX7_until 88 = .ok (.aload_n 0, 1) := by decide +kernel
theorem dX7_until_89 : decode cX7_until 89 = .ok (.getfield 7, 3) := by decide +kernel
theorem dX7_until_92 : decode cX7_until 92 = .ok (.iload_n 2, 1) := by decide +kernel
theorem dX7_until_93 : decode cX7_until 93 = .ok (.laload, 1) := by decide +kernel
theorem dX7_until_94 : decode cX7_until 94 = .ok (.aload_n 0, 1) := by decide +kernel
theorem dX7_until_95 : decode cX7_until 95 = .ok (.getfield 7, 3) := by decide +kernel
theorem dX7_until_98 : decode cX7_until 98 = .ok (.iload_n 1, 1) := by decide +kernel
theorem dX7_until_99 : decode cX7_until 99 = .ok (.laload, 1) := by decide +kernel
theorem dX7_until_100 : decode cX7_until 100 = .ok (.lsub, 1) := by decide +kernel
theorem dX7_until_101 : decode cX7_until 101 = .ok (.lstore 4, 2) := by decide +kernel
theorem dX7_until_103 : decode cX7_until 103 = .ok (.aload_n 0, 1) := by decide +kernel
theorem dX7_until_104 : decode cX7_until 104 = .ok (.getfield 13, 3) := by decide +kernel
theorem dX7_until_107 : decode cX7_until 107 = .ok (.iload_n 2, 1) := by decide +kernel
theorem dX7_until_108 : decode cX7_until 108 = .ok (.laload, 1) := by decide +kernel
theorem dX7_until_109 : decode cX7_until 109 = .ok (.aload_n 0, 1) := by decide +kernel
theorem dX7_until_110 : decode cX7_until 110 = .ok (.getfield 13, 3) := by decide +kernel
theorem dX7_until_113 : decode cX7_until 113 = .ok (.iload_n 1, 1) := by decide +kernel
theorem dX7_until_114 : decode cX7_until 114 = .ok (.laload, 1) := by decide +kernel
theorem dX7_until_115 : decode cX7_until 115 = .ok (.lsub, 1) := by decide +kernel
theorem dX7_until_116 : decode cX7_until 116 = .ok (.lstore 6, 2) := by decide +kernel
theorem dX7_until_118 : decode cX7_until 118 = .ok (.lload 4, 2) := by decide +kernel
theorem dX7_until_120 : decode cX7_until 120 = .ok (.lconst 0, 1) := by decide +kernel
theorem dX7_until_121 : decode cX7_until 121 = .ok (.lcmp, 1) := by decide +kernel
theorem dX7_until_122 : decode cX7_until 122 = .ok (.ifCond .ge 24, 3) := by decide +kernel
theorem dX7_until_125 : decode cX7_until 125 = .ok (.lload 6, 2) := by decide +kernel
theorem dX7_until_127 : decode cX7_until 127 = .ok (.lconst 0, 1) := by decide +kernel
theorem dX7_until_128 : decode cX7_until 128 = .ok (.lcmp, 1) := by decide +kernel
theorem dX7_until_129 : decode cX7_until 129 = .ok (.ifCond .le 17, 3) := by decide +kernel
theorem dX7_until_132 : decode cX7_until 132 = .ok (.lload 4, 2) := by decide +kernel
theorem dX7_until_134 : decode cX7_until 134 = .ok (.lconst 1, 1) := by decide +kernel
theorem dX7_until_135 : decode cX7_until 135 = .ok (.ladd, 1) := by decide +kernel
theorem dX7_until_136 : decode cX7_until 136 = .ok (.lstore 4, 2) := by decide +kernel
theorem dX7_until_138 : decode cX7_until 138 = .ok (.lload 6, 2) := by decide +kernel
theorem dX7_until_140 : decode cX7_until 140 = .ok (.ldc2_w 173, 3) := by decide +kernel
theorem dX7_until_143 : decode cX7_until 143 = .ok (.lsub, 1) := by decide +kernel
theorem dX7_until_144 : decode cX7_until 144 = .ok (.lstore 6, 2) := by decide +kernel
theorem dX7_until_146 : decode cX7_until 146 = .ok (.lload 4, 2) := by decide +kernel
theorem dX7_until_148 : decode cX7_until 148 = .ok (.lconst 0, 1) := by decide +kernel
theorem dX7_until_149 : decode cX7_until 149 = .ok (.lcmp, 1) := by decide +kernel
theorem dX7_until_150 : decode cX7_until 150 = .ok (.ifCond .le 24, 3) := by decide +kernel
theorem dX7_until_153 : decode cX7_until 153 = .ok (.lload 6, 2) := by decide +kernel
theorem dX7_until_155 : decode cX7_until 155 = .ok (.lconst 0, 1) := by decide +kernel
theorem dX7_until_156 : decode cX7_until 156 = .ok (.lcmp, 1) := by decide +kernel
theorem dX7_until_157 : decode cX7_until 157 = .ok (.ifCond .ge 17, 3) := by decide +kernel
theorem dX7_until_160 : decode cX7_until 160 = .ok (.lload 4, 2) := by decide +kernel
theorem dX7_until_162 : decode cX7_until 162 = .ok (.lconst 1, 1) := by decide +kernel
theorem dX7_until_163 : decode cX7_until 163 = .ok (.lsub, 1) := by decide +kernel
theorem dX7_until_164 : decode cX7_until 164 = .ok (.lstore 4, 2) := by decide +kernel
theorem dX7_until_166 : decode cX7_until 166 = .ok (.lload 6, 2) := by decide +kernel
theorem dX7_until_168 : decode cX7_until 168 = .ok (.ldc2_w 173, 3) := by decide +kernel
theorem dX7_until_171 : decode cX7_until 171 = .ok (.ladd, 1) := by decide +kernel
theorem dX7_until_172 : decode cX7_until 172 = .ok (.lstore 6, 2) := by decide +kernel
theorem dX7_until_174 : decode cX7_until 174 = .ok (.iload_n 3, 1) := by decide +kernel
theorem dX7_until_175 : decode cX7_until 175 = .ok (.bipush 6, 2) := by decide +kernel
theorem dX7_until_177 : decode cX7_until 177 = .ok (.if_icmp .le 21, 3) := by decide +kernel
theorem dX7_until_180 : decode cX7_until 180 = .ok (.iload_n 3, 1) := by decide +kernel
theorem dX7_until_181 : decode cX7_until 181 = .ok (.bipush 7, 2) := by decide +kernel
theorem dX7_until_183 : decode cX7_until 183 = .ok (.if_icmp .ne 8, 3) := by decide +kernel
theorem dX7_until_186 : decode cX7_until 186 = .ok (.lload 4, 2) := by decide +kernel
theorem dX7_until_188 : decode cX7_until 188 = .ok (.goto 9, 3) := by decide +kernel
theorem dX7_until_191 : decode cX7_until 191 = .ok (.lload 4, 2) := by decide +kernel
theorem dX7_until_193 : decode cX7_until 193 = .ok (.ldc2_w 92, 3) := by decide +kernel
theorem dX7_until_196 : decode cX7_until 196 = .ok (.ldiv, 1) := by decide +kernel
theorem dX7_until_197 : decode cX7_until 197 = .ok (.lreturn, 1) := by decide +kernel
theorem dX7_until_198 : decode cX7_until 198 = .ok (.ldc2_w 173, 3) := by decide +kernel
theorem dX7_until_201 : decode cX7_until 201 = .ok (.iload_n 3, 1) := by decide +kernel
theorem dX7_until_202 : decode cX7_until 202 = .ok (.invokestatic 199, 3) := by decide +kernel
theorem dX7_until_205 : decode cX7_until 205 = .ok (.ldiv, 1) := by decide +kernel
theorem dX7_until_206 : decode cX7_until 206 = .ok (.lstore 8, 2) := by decide +kernel
theorem dX7_until_208 : decode cX7_until 208 = .ok (.lload 6, 2) := by decide +kernel
theorem dX7_until_210 : decode cX7_until 210 = .ok (.iload_n 3, 1) := by decide +kernel
theorem dX7_until_211 : decode cX7_until 211 = .ok (.invokestatic 199, 3) := by decide +kernel
theorem dX7_until_214 : decode cX7_until 214 = .ok (.ldiv, 1) := by decide +kernel
theorem dX7_until_215 : decode cX7_until 215 = .ok (.lstore 10, 2) := by decide +kernel
theorem dX7_until_217 : decode cX7_until 217 = .ok (.lload 4, 2) := by decide +kernel
theorem dX7_until_219 : decode cX7_until 219 = .ok (.lconst 0, 1) := by decide +kernel
theorem dX7_until_220 : decode cX7_until 220 = .ok (.lcmp, 1) := by decide +kernel
theorem dX7_until_221 : decode cX7_until 221 = .ok (.ifCond .ge 18, 3) := by decide +kernel
theorem dX7_until_224 : decode cX7_until 224 = .ok (.lload 4, 2) := by decide +kernel
theorem dX7_until_226 : decode cX7_until 226 = .ok (.ldc2_w 206, 3) := by decide +kernel
theorem dX7_until_229 : decode cX7_until 229 = .ok (.lload 10, 2) := by decide +kernel
theorem dX7_until_231 : decode cX7_until 231 = .ok (.lsub, 1) := by decide +kernel
theorem dX7_until_232 : decode cX7_until 232 = .ok (.lload 8, 2) := by decide +kernel
theorem dX7_until_234 : decode cX7_until 234 = .ok (.ldiv, 1) := by decide +kernel
theorem dX7_until_235 : decode cX7_until 235 = .ok (.lcmp, 1) := by decide +kernel
theorem dX7_until_236 : decode cX7_until 236 = .ok (.ifCond .lt 25, 3) := by decide +kernel
theorem dX7_until_239 : decode cX7_until 239 = .ok (.lload 4, 2) := by decide +kernel
theorem dX7_until_241 : decode cX7_until 241 = .ok (.lconst 0, 1) := by decide +kernel
theorem dX7_until_242 : decode cX7_until 242 = .ok (.lcmp, 1) := by decide +kernel
theorem dX7_until_243 : decode cX7_until 243 = .ok (.ifCond .le 22, 3) := by decide +kernel
theorem dX7_until_246 : decode cX7_until 246 = .ok (.lload 4, 2) := by decide +kernel
theorem dX7_until_248 : decode cX7_until 248 = .ok (.ldc2_w 208, 3) := by decide +kernel
theorem dX7_until_251 : decode cX7_until 251 = .ok (.lload 10, 2) := by decide +kernel
theorem dX7_until_253 : decode cX7_until 253 = .ok (.lsub, 1) := by decide +kernel
theorem dX7_until_254 : decode cX7_until 254 = .ok (.lload 8, 2) := by decide +kernel
theorem dX7_until_256 : decode cX7_until 256 = .ok (.ldiv, 1) := by decide +kernel
theorem dX7_until_257 : decode cX7_until 257 = .ok (.lcmp, 1) := by decide +kernel
theorem dX7_until_258 : decode cX7_until 258 = .ok (.ifCond .le 7, 3) := by decide +kernel
theorem dX7_until_261 : decode cX7_until 261 = .ok (.iconst 1, 1) := by decide +kernel
theorem dX7_until_262 : decode cX7_until 262 = .ok (.goto 4, 3) := by decide +kernel
theorem dX7_until_265 : decode cX7_until 265 = .ok (.iconst 0, 1) := by decide +kernel
theorem dX7_until_266 : decode cX7_until 266 = .ok (.istore 12, 2) := by decide +kernel
theorem dX7_until_268 : decode cX7_until 268 = .ok (.aload_n 0, 1) := by decide +kernel
theorem dX7_until_269 : decode cX7_until 269 = .ok (.iload 12, 2) := by decide +kernel
theorem dX7_until_271 : decode cX7_until 271 = .ok (.ifCond .eq 7, 3) := by decide +kernel
theorem dX7_until_274 : decode cX7_until 274 = .ok (.iconst 3, 1) := by decide +kernel
theorem dX7_until_275 : decode cX7_until 275 = .ok (.goto 4, 3) := by decide +kernel
theorem dX7_until_278 : decode cX7_until 278 = .ok (.iconst 0, 1) := by decide +kernel
theorem dX7_until_279 : decode cX7_until 279 = .ok (.putfield 41, 3) := by decide +kernel
theorem dX7_until_282 : decode cX7_until 282 = .ok (.aload_n 0, 1) := by decide +kernel
theorem dX7_until_283 : decode cX7_until 283 = .ok (.getfield 41, 3) := by decide +kernel
theorem dX7_until_286 : decode cX7_until 286 = .ok (.ifCond .le 7, 3) := by decide +kernel
theorem dX7_until_289 : decode cX7_until 289 = .ok (.lconst 0, 1) := by decide +kernel
theorem dX7_until_290 : decode cX7_until 290 = .ok (.goto 11, 3) := by decide +kernel
theorem dX7_until_293 : decode cX7_until 293 = .ok (.lload 4, 2) := by decide +kernel
theorem dX7_until_295 : decode cX7_until 295 = .ok (.lload 8, 2) := by decide +kernel
theorem dX7_until_297 : decode cX7_until 297 = .ok (.lmul, 1) := by decide +kernel
theorem dX7_until_298 : decode cX7_until 298 = .ok (.lload 10, 2) := by decide +kernel
theorem dX7_until_300 : decode cX7_until 300 = .ok (.ladd, 1) := by decide +kernel
theorem dX7_until_301 : decode cX7_until 301 = .ok (.lreturn, 1) := by decide +kernel
theorem dX7_span_0 : decode cX7_span 0 = .ok (.aload_n 0, 1) := by decide +kernel
theorem dX7_span_1 : decode cX7_span 1 = .ok (.iload_n 1, 1) := by decide +kernel
theorem dX7_span_2 : decode cX7_span 2 = .ok (.invokevirtual 120, 3) := by decide +kernel
theorem dX7_span_5 : decode cX7_span 5 = .ok (.ifCond .eq 11, 3) := by decide +kernel
theorem dX7_span_8 : decode cX7_span 8 = .ok (.aload_n 0, 1) := by decide +kernel
theorem dX7_span_9 : decode cX7_span 9 = .ok (.iload_n 2, 1) := by decide +kernel
theorem dX7_span_10 : decode cX7_span 10 = .ok (.invokevirtual 120, 3) := by decide +kernel
theorem dX7_span_13 : decode cX7_span 13 = .ok (.ifCond .ne 5, 3) := by decide +kernel
theorem dX7_span_16 : decode cX7_span 16 = .ok (.iconst 0, 1) := by decide +kernel
theorem dX7_span_17 : decode cX7_span 17 = .ok (.ireturn, 1) := by decide +kernel
theorem dX7_span_18 : decode cX7_span 18 = .ok (.aload_n 0, 1) := by decide +kernel
theorem dX7_span_19 : decode cX7_span 19 = .ok (.iload_n 3, 1) := by decide +kernel
theorem dX7_span_20 : decode cX7_span 20 = .ok (.i2l, 1) := by decide +kernel
theorem dX7_span_21 : decode cX7_span 21 = .ok (.lconst 0, 1) := by decide +kernel
theorem dX7_span_22 : decode cX7_span 22 = .ok (.ldc2_w 64, 3) := by decide +kernel
theorem dX7_span_25 : decode cX7_span 25 = .ok (.invokestatic 102, 3) := by decide +kernel
