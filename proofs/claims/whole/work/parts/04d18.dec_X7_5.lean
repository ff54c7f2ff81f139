theorem dX7_span_28 : decode cX7_span 28 = .ok (.ifCond .eq 7, 3) := by decide +kernel
theorem dX7_span_31 : decode cX7_span 31 = .ok (.iconst 0, 1) := by decide +kernel
theorem dX7_span_32 : decode cX7_span 32 = .ok (.goto 4, 3) := by decide +kernel
theorem dX7_span_35 : decode cX7_span 35 = .ok (.iconst 2, 1) := by decide +kernel
theorem dX7_span_36 : decode cX7_span 36 = .ok (.putfield 41, 3) := by decide +kernel
theorem dX7_span_39 : decode cX7_span 39 = .ok (.aload_n 0, 1) := by decide +kernel
theorem dX7_span_40 : decode cX7_span 40 = .ok (.getfield 41, 3) := by decide +kernel
theorem dX7_span_43 : decode cX7_span 43 = .ok (.ifCond .le 5, 3) := by decide +kernel
theorem dX7_span_46 : decode cX7_span 46 = .ok (.iconst 0, 1) := by decide +kernel
theorem dX7_span_47 : decode cX7_span 47 = .ok (.ireturn, 1) := by decide +kernel
theorem dX7_span_48 : decode cX7_span 48 = .ok (.aload_n 0, 1) := by decide +kernel
theorem dX7_span_49 : decode cX7_span 49 = .ok (.aload_n 0, 1) := by decide +kernel
theorem dX7_span_50 : decode cX7_span 50 = .ok (.getfield 7, 3) := by decide +kernel
theorem dX7_span_53 : decode cX7_span 53 = .ok (.iload_n 1, 1) := by decide +kernel
theorem dX7_span_54 : decode cX7_span 54 = .ok (.laload, 1) := by decide +kernel
theorem dX7_span_55 : decode cX7_span 55 = .ok (.lconst 0, 1) := by decide +kernel
theorem dX7_span_56 : decode cX7_span 56 = .ok (.aload_n 0, 1) := by decide +kernel
theorem dX7_span_57 : decode cX7_span 57 = .ok (.getfield 7, 3) := by decide +kernel
theorem dX7_span_60 : decode cX7_span 60 = .ok (.iload_n 2, 1) := by decide +kernel
theorem dX7_span_61 : decode cX7_span 61 = .ok (.laload, 1) := by decide +kernel
theorem dX7_span_62 : decode cX7_span 62 = .ok (.lconst 0, 1) := by decide +kernel
theorem dX7_span_63 : decode cX7_span 63 = .ok (.invokevirtual 202, 3) := by decide +kernel
theorem dX7_span_66 : decode cX7_span 66 = .ok (.lstore 4, 2) := by decide +kernel
theorem dX7_span_68 : decode cX7_span 68 = .ok (.iload_n 3, 1) := by decide +kernel
theorem dX7_span_69 : decode cX7_span 69 = .ok (.iconst 2, 1) := by decide +kernel
theorem dX7_span_70 : decode cX7_span 70 = .ok (.if_icmp .ge 24, 3) := by decide +kernel
theorem dX7_span_73 : decode cX7_span 73 = .ok (.iload_n 3, 1) := by decide +kernel
theorem dX7_span_74 : decode cX7_span 74 = .ok (.ifCond .ne 12, 3) := by decide +kernel
theorem dX7_span_77 : decode cX7_span 77 = .ok (.lload 4, 2) := by decide +kernel
theorem dX7_span_79 : decode cX7_span 79 = .ok (.ldc2_w 110, 3) := by decide +kernel
theorem dX7_span_82 : decode cX7_span 82 = .ok (.ldiv, 1) := by decide +kernel
theorem dX7_span_83 : decode cX7_span 83 = .ok (.goto 9, 3) := by decide +kernel
theorem dX7_span_86 : decode cX7_span 86 = .ok (.lload 4, 2) := by decide +kernel
theorem dX7_span_88 : decode cX7_span 88 = .ok (.ldc2_w 110, 3) := by decide +kernel
theorem dX7_span_91 : decode cX7_span 91 = .ok (.lrem, 1) := by decide +kernel
theorem dX7_span_92 : decode cX7_span 92 = .ok (.l2i, 1) := by decide +kernel
theorem dX7_span_93 : decode cX7_span 93 = .ok (.ireturn, 1) := by decide +kernel
theorem dX7_span_94 : decode cX7_span 94 = .ok (.aload_n 0, 1) := by decide +kernel
theorem dX7_span_95 : decode cX7_span 95 = .ok (.getfield 7, 3) := by decide +kernel
theorem dX7_span_98 : decode cX7_span 98 = .ok (.iload_n 2, 1) := by decide +kernel
theorem dX7_span_99 : decode cX7_span 99 = .ok (.laload, 1) := by decide +kernel
theorem dX7_span_100 : decode cX7_span 100 = .ok (.aload_n 0, 1) := by decide +kernel
theorem dX7_span_101 : decode cX7_span 101 = .ok (.aload_n 0, 1) := by decide +kernel
theorem dX7_span_102 : decode cX7_span 102 = .ok (.getfield 7, 3) := by decide +kernel
theorem dX7_span_105 : decode cX7_span 105 = .ok (.iload_n 1, 1) := by decide +kernel
theorem dX7_span_106 : decode cX7_span 106 = .ok (.laload, 1) := by decide +kernel
theorem dX7_span_107 : decode cX7_span 107 = .ok (.aload_n 0, 1) := by decide +kernel
theorem dX7_span_108 : decode cX7_span 108 = .ok (.aload_n 0, 1) := by decide +kernel
theorem dX7_span_109 : decode cX7_span 109 = .ok (.getfield 7, 3) := by decide +kernel
theorem dX7_span_112 : decode cX7_span 112 = .ok (.iload_n 1, 1) := by decide +kernel
theorem dX7_span_113 : decode cX7_span 113 = .ok (.laload, 1) := by decide +kernel
theorem dX7_span_114 : decode cX7_span 114 = .ok (.invokevirtual 191, 3) := by decide +kernel
theorem dX7_span_117 : decode cX7_span 117 = .ok (.lload 4, 2) := by decide +kernel
theorem dX7_span_119 : decode cX7_span 119 = .ok (.ladd, 1) := by decide +kernel
theorem dX7_span_120 : decode cX7_span 120 = .ok (.invokevirtual 161, 3) := by decide +kernel
theorem dX7_span_123 : decode cX7_span 123 = .ok (.lsub, 1) := by decide +kernel
theorem dX7_span_124 : decode cX7_span 124 = .ok (.l2i, 1) := by decide +kernel
theorem dX7_span_125 : decode cX7_span 125 = .ok (.ireturn, 1) := by decide +kernel
theorem dX7_adjust_0 : decode cX7_adjust 0 = .ok (.aload_n 0, 1) := by decide +kernel
theorem dX7_adjust_1 : decode cX7_adjust 1 = .ok (.iload_n 1, 1) := by decide +kernel
theorem dX7_adjust_2 : decode cX7_adjust 2 = .ok (.invokevirtual 120, 3) := by decide +kernel
theorem dX7_adjust_5 : decode cX7_adjust 5 = .ok (.ifCond .ne 4, 3) := by decide +kernel
theorem dX7_adjust_8 : decode cX7_adjust 8 = .ok (.return_, 1) := by decide +kernel
theorem dX7_adjust_9 : decode cX7_adjust 9 = .ok (.iload_n 3, 1) := by decide +kernel
theorem dX7_adjust_10 : decode cX7_adjust 10 = .ok (.i2l, 1) := by decide +kernel
theorem dX7_adjust_11 : decode cX7_adjust 11 = .ok (.lconst 1, 1) := by decide +kernel
theorem dX7_adjust_12 : decode cX7_adjust 12 = .ok (.ldc2_w 92, 3) := by decide +kernel
theorem dX7_adjust_15 : decode cX7_adjust 15 = .ok (.invokestatic 102, 3) := by decide +kernel
theorem dX7_adjust_18 : decode cX7_adjust 18 = .ok (.ifCond .eq 15, 3) := by decide +kernel
theorem dX7_adjust_21 : decode cX7_adjust 21 = .ok (.iload_n 2, 1) := by decide +kernel
theorem dX7_adjust_22 : decode cX7_adjust 22 = .ok (.i2l, 1) := by decide +kernel
theorem dX7_adjust_23 : decode cX7_adjust 23 = .ok (.lconst 0, 1) := by decide +kernel
theorem dX7_adjust_24 : decode cX7_adjust 24 = .ok (.ldc2_w 66, 3) := by decide +kernel
theorem dX7_adjust_27 : decode cX7_adjust 27 = .ok (.invokestatic 102, 3) := by decide +kernel
theorem dX7_adjust_30 : decode cX7_adjust 30 = .ok (.ifCond .ne 9, 3) := by decide +kernel
theorem dX7_adjust_33 : decode cX7_adjust 33 = .ok (.aload_n 0, 1) := by decide +kernel
theorem dX7_adjust_34 : decode cX7_adjust 34 = .ok (.iconst 2, 1) := by decide +kernel
theorem dX7_adjust_35 : decode cX7_adjust 35 = .ok (.putfield 41, 3) := by decide +kernel
theorem dX7_adjust_38 : decode cX7_adjust 38 = .ok (.return_, 1) := by decide +kernel
theorem dX7_adjust_39 : decode cX7_adjust 39 = .ok (.aload_n 0, 1) := by decide +kernel
theorem dX7_adjust_40 : decode cX7_adjust 40 = .ok (.getfield 7, 3) := by decide +kernel
theorem dX7_adjust_43 : decode cX7_adjust 43 = .ok (.iload_n 1, 1) := by decide +kernel
theorem dX7_adjust_44 : decode cX7_adjust 44 = .ok (.laload, 1) := by decide +kernel
theorem dX7_adjust_45 : decode cX7_adjust 45 = .ok (.lstore 4, 2) := by decide +kernel
theorem dX7_adjust_47 : decode cX7_adjust 47 = .ok (.aload_n 0, 1) := by decide +kernel
theorem dX7_adjust_48 : decode cX7_adjust 48 = .ok (.lload 4, 2) := by decide +kernel
theorem dX7_adjust_50 : decode cX7_adjust 50 = .ok (.invokevirtual 106, 3) := by decide +kernel
theorem dX7_adjust_53 : decode cX7_adjust 53 = .ok (.iload_n 2, 1) := by decide +kernel
theorem dX7_adjust_54 : decode cX7_adjust 54 = .ok (.iconst 2, 1) := by decide +kernel
theorem dX7_adjust_55 : decode cX7_adjust 55 = .ok (.if_icmp .eq 13, 3) := by decide +kernel
theorem dX7_adjust_58 : decode cX7_adjust 58 = .ok (.iload_n 2, 1) := by decide +kernel
theorem dX7_adjust_59 : decode cX7_adjust 59 = .ok (.iconst 3, 1) := by decide +kernel
theorem dX7_adjust_60 : decode cX7_adjust 60 = .ok (.if_icmp .eq 8, 3) := by decide +kernel
theorem dX7_adjust_63 : decode cX7_adjust 63 = .ok (.iload_n 2, 1) := by decide +kernel
theorem dX7_adjust_64 : decode cX7_adjust 64 = .ok (.iconst 5, 1) := by decide +kernel
theorem dX7_adjust_65 : decode cX7_adjust 65 = .ok (.if_icmp .ne 7, 3) := by decide +kernel
theorem dX7_adjust_68 : decode cX7_adjust 68 = .ok (.iconst 1, 1) := by decide +kernel
theorem dX7_adjust_69 : decode cX7_adjust 69 = .ok (.goto 4, 3) := by decide +kernel
theorem dX7_adjust_72 : decode cX7_adjust 72 = .ok (.iconst 0, 1) := by decide +kernel
theorem dX7_adjust_73 : decode cX7_adjust 73 = .ok (.istore 6, 2) := by decide +kernel
theorem dX7_adjust_75 : decode cX7_adjust 75 = .ok (.iload_n 2, 1) := by decide +kernel
theorem dX7_adjust_76 : decode cX7_adjust 76 = .ok (.ifCond .ne 10, 3) := by decide +kernel
theorem dX7_adjust_79 : decode cX7_adjust 79 = .ok (.lload 4, 2) := by decide +kernel
theorem dX7_adjust_81 : decode cX7_adjust 81 = .ok (.lconst 1, 1) := by decide +kernel
theorem dX7_adjust_82 : decode cX7_adjust 82 = .ok (.ladd, 1) := by decide +kernel
theorem dX7_adjust_83 : decode cX7_adjust 83 = .ok (.goto 67, 3) := by decide +kernel
theorem dX7_adjust_86 : decode cX7_adjust 86 = .ok (.iload_n 2, 1) := by decide +kernel
theorem dX7_adjust_87 : decode cX7_adjust 87 = .ok (.iconst 2, 1) := by decide +kernel
theorem dX7_adjust_88 : decode cX7_adjust 88 = .ok (.if_icmp .ne 10, 3) := by decide +kernel
theorem dX7_adjust_91 : decode cX7_adjust 91 = .ok (.lload 4, 2) := by decide +kernel
theorem dX7_adjust_93 : decode cX7_adjust 93 = .ok (.lconst 1, 1) := by decide +kernel
theorem dX7_adjust_94 : decode cX7_adjust 94 = .ok (.lsub, 1) := by decide +kernel
theorem dX7_adjust_95 : decode cX7_adjust 95 = .ok (.goto 55, 3) := by decide +kernel
theorem dX7_adjust_98 : decode cX7_adjust 98 = .ok (.iload_n 2, 1) := by decide +kernel
theorem dX7_adjust_99 : decode cX7_adjust 99 = .ok (.iconst 4, 1) := by decide +kernel
theorem dX7_adjust_100 : decode cX7_adjust 100 = .ok (.if_icmp .ne 18, 3) := by decide +kernel
theorem dX7_adjust_103 : decode cX7_adjust 103 = .ok (.aload_n 0, 1) := by decide +kernel
theorem dX7_adjust_104 : decode cX7_adjust 104 = .ok (.getfield 86, 3) := by decide +kernel
theorem dX7_adjust_107 : decode cX7_adjust 107 = .ok (.aload_n 0, 1) := by decide +kernel
theorem dX7_adjust_108 : decode cX7_adjust 108 = .ok (.getfield 83, 3) := by decide +kernel
theorem dX7_adjust_111 : decode cX7_adjust 111 = .ok (.iconst 1, 1) := by decide +kernel
theorem dX7_adjust_112 : decode cX7_adjust 112 = .ok (.invokestatic 96, 3) := by decide +kernel
theorem dX7_adjust_115 : decode cX7_adjust 115 = .ok (.goto 35, 3) := by decide +kernel
theorem dX7_adjust_118 : decode cX7_adjust 118 = .ok (.iload_n 2, 1) := by decide +kernel
theorem dX7_adjust_119 : decode cX7_adjust 119 = .ok (.iconst 5, 1) := by decide +kernel
theorem dX7_adjust_120 : decode cX7_adjust 120 = .ok (.if_icmp .ne 28, 3) := by decide +kernel
theorem dX7_adjust_123 : decode cX7_adjust 123 = .ok (.aload_n 0, 1) := by decide +kernel
theorem dX7_adjust_124 : decode cX7_adjust 124 = .ok (.getfield 86, 3) := by decide +kernel
theorem dX7_adjust_127 : decode cX7_adjust 127 = .ok (.aload_n 0, 1) := by decide +kernel
theorem dX7_adjust_128 : decode cX7_adjust 128 = .ok (.getfield 83, 3) := by decide +kernel
theorem dX7_adjust_131 : decode cX7_adjust 131 = .ok (.aload_n 0, 1) := by decide +kernel
theorem dX7_adjust_132 : decode cX7_adjust 132 = .ok (.getfield 86, 3) := by decide +kernel
theorem dX7_adjust_135 : decode cX7_adjust 135 = .ok (.aload_n 0, 1) := by decide +kernel
theorem dX7_adjust_136 : decode cX7_adjust 136 = .ok (.getfield 83, 3) := by decide +kernel
theorem dX7_adjust_139 : decode cX7_adjust 139 = .ok (.invokestatic 112, 3) := by decide +kernel
theorem dX7_adjust_142 : decode cX7_adjust 142 = .ok (.invokestatic 96, 3) := by decide +kernel
theorem dX7_adjust_145 : decode cX7_adjust 145 = .ok (.goto 5, 3) := by decide +kernel
theorem dX7_adjust_148 : decode cX7_adjust 148 = .ok (.lload 4, 2) := by decide +kernel
theorem dX7_adjust_150 : decode cX7_adjust 150 = .ok (.lstore 4, 2) := by decide +kernel
theorem dX7_adjust_152 : decode cX7_adjust 152 = .ok (.lload 4, 2) := by decide +kernel
theorem dX7_adjust_154 : decode cX7_adjust 154 = .ok (.invokestatic 138, 3) := by decide +kernel
theorem dX7_adjust_157 : decode cX7_adjust 157 = .ok (.iload_n 3, 1) := by decide +kernel
theorem dX7_adjust_158 : decode cX7_adjust 158 = .ok (.if_icmp .eq 23, 3) := by decide +kernel
theorem dX7_adjust_161 : decode cX7_adjust 161 = .ok (.lload 4, 2) := by decide +kernel
theorem dX7_adjust_163 : decode cX7_adjust 163 = .ok (.iload 6, 2) := by decide +kernel
theorem dX7_adjust_165 : decode cX7_adjust 165 = .ok (.ifCond .eq 9, 3) := by decide +kernel
theorem dX7_adjust_168 : decode cX7_adjust 168 = .ok (.ldc2_w 210, 3) := by decide +kernel
theorem dX7_adjust_171 : decode cX7_adjust 171 = .ok (.goto 4, 3) := by decide +kernel
theorem dX7_adjust_174 : decode cX7_adjust 174 = .ok (.lconst 1, 1) := by decide +kernel
theorem dX7_adjust_175 : decode cX7_adjust 175 = .ok (.ladd, 1) := by decide +kernel
theorem dX7_adjust_176 : decode cX7_adjust 176 = .ok (.lstore 4, 2) := by decide +kernel
theorem dX7_adjust_178 : decode cX7_adjust 178 = .ok (.goto (-26), 3) := by decide +kernel
theorem dX7_adjust_181 : decode cX7_adjust 181 = .ok (.aload_n 0, 1) := by decide +kernel
theorem dX7_adjust_182 : decode cX7_adjust 182 = .ok (.lload 4, 2) := by decide +kernel
theorem dX7_adjust_184 : decode cX7_adjust 184 = .ok (.invokestatic 166, 3) := by decide +kernel
theorem dX7_adjust_187 : decode cX7_adjust 187 = .ok (.ifCond .eq 7, 3) := by decide +kernel
theorem dX7_adjust_190 : decode cX7_adjust 190 = .ok (.iconst 0, 1) := by decide +kernel
theorem dX7_adjust_191 : decode cX7_adjust 191 = .ok (.goto 4, 3) := by decide +kernel
theorem dX7_adjust_194 : decode cX7_adjust 194 = .ok (.iconst 3, 1) := by decide +kernel
theorem dX7_adjust_195 : decode cX7_adjust 195 = .ok (.putfield 41, 3) := by decide +kernel
theorem dX7_adjust_198 : decode cX7_adjust 198 = .ok (.aload_n 0, 1) := by decide +kernel
theorem dX7_adjust_199 : decode cX7_adjust 199 = .ok (.getfield 7, 3) := by decide +kernel
theorem dX7_adjust_202 : decode cX7_adjust 202 = .ok (.iload_n 1, 1) := by decide +kernel
theorem dX7_adjust_203 : decode cX7_adjust 203 = .ok (.aload_n 0, 1) := by decide +kernel
theorem dX7_adjust_204 : decode cX7_adjust 204 = .ok (.getfield 41, 3) := by decide +kernel
theorem dX7_adjust_207 : decode cX7_adjust 207 = .ok (.ifCond .ne 8, 3) := by decide +kernel
theorem dX7_adjust_210 : decode cX7_adjust 210 = .ok (.lload 4, 2) := by decide +kernel
theorem dX7_adjust_212 : decode cX7_adjust 212 = .ok (.goto 9, 3) := by decide +kernel
theorem dX7_adjust_215 : decode cX7_adjust 215 = .ok (.aload_n 0, 1) := by decide +kernel
theorem dX7_adjust_216 : decode cX7_adjust 216 = .ok (.getfield 7, 3) := by decide +kernel
theorem dX7_adjust_219 : decode cX7_adjust 219 = .ok (.iload_n 1, 1) := by decide +kernel
theorem dX7_adjust_220 : decode cX7_adjust 220 = .ok (.laload, 1) := by decide +kernel
theorem dX7_adjust_221 : decode cX7_adjust 221 = .ok (.lastore, 1) := by decide +kernel
theorem dX7_adjust_222 : decode cX7_adjust 222 = .ok (.return_, 1) := by decide +kernel
theorem dX7_copy_0 : decode cX7_copy 0 = .ok (.aload_n 0, 1) := by decide +kernel
theorem dX7_copy_1 : decode cX7_copy 1 = .ok (.iload_n 1, 1) := by decide +kernel
theorem dX7_copy_2 : decode cX7_copy 2 = .ok (.invokevirtual 120, 3) := by decide +kernel
theorem dX7_copy_5 : decode cX7_copy 5 = .ok (.ifCond .eq 11, 3) := by decide +kernel
theorem dX7_copy_8 : decode cX7_copy 8 = .ok (.aload_n 0, 1) := by decide +kernel
theorem dX7_copy_9 : decode cX7_copy 9 = .ok (.iload_n 2, 1) := by decide +kernel
theorem dX7_copy_10 : decode cX7_copy 10 = .ok (.invokevirtual 120, 3) := by decide +kernel
theorem dX7_copy_13 : decode cX7_copy 13 = .ok (.ifCond .ne 5, 3) := by decide +kernel
theorem dX7_copy_16 : decode cX7_copy 16 = .ok (.iconst 0, 1) := by decide +kernel
theorem dX7_copy_17 : decode cX7_copy 17 = .ok (.ireturn, 1) := by decide +kernel
theorem dX7_copy_18 : decode cX7_copy 18 = .ok (.aload_n 0, 1) := by decide +kernel
theorem dX7_copy_19 : decode cX7_copy 19 = .ok (.getfield 7, 3) := by decide +kernel
theorem dX7_copy_22 : decode cX7_copy 22 = .ok (.iload_n 1, 1) := by decide +kernel
theorem dX7_copy_23 : decode cX7_copy 23 = .ok (.laload, 1) := by decide +kernel
theorem dX7_copy_24 : decode cX7_copy 24 = .ok (.aload_n 0, 1) := by decide +kernel
theorem dX7_copy_25 : decode cX7_copy 25 = .ok (.getfield 7, 3) := by decide +kernel
theorem dX7_copy_28 : decode cX7_copy 28 = .ok (.iload_n 2, 1) := by decide +kernel
theorem dX7_copy_29 : decode cX7_copy 29 = .ok (.laload, 1) := by decide +kernel
theorem dX7_copy_30 : decode cX7_copy 30 = .ok (.lcmp, 1) := by decide +kernel
theorem dX7_copy_31 : decode cX7_copy 31 = .ok (.ifCond .ne 7, 3) := by decide +kernel
theorem dX7_copy_34 : decode cX7_copy 34 = .ok (.iconst 1, 1) := by decide +kernel
theorem dX7_copy_35 : decode cX7_copy 35 = .ok (.goto 4, 3) := by decide +kernel
theorem dX7_copy_38 : decode cX7_copy 38 = .ok (.iconst 0, 1) := by decide +kernel
theorem dX7_copy_39 : decode cX7_copy 39 = .ok (.istore_n 3, 1) := by decide +kernel
theorem dX7_copy_40 : decode cX7_copy 40 = .ok (.iload_n 3, 1) := by decide +kernel
theorem dX7_copy_41 : decode cX7_copy 41 = .ok (.ifCond .eq 47, 3) := by decide +kernel
theorem dX7_copy_44 : decode cX7_copy 44 = .ok (.aload_n 0, 1) := by decide +kernel
theorem dX7_copy_45 : decode cX7_copy 45 = .ok (.getfield 13, 3) := by decide +kernel
theorem dX7_copy_48 : decode cX7_copy 48 = .ok (.iload_n 2, 1) := by decide +kernel
theorem dX7_copy_49 : decode cX7_copy 49 = .ok (.laload, 1) := by decide +kernel
theorem dX7_copy_50 : decode cX7_copy 50 = .ok (.aload_n 0, 1) := by decide +kernel
theorem dX7_copy_51 : decode cX7_copy 51 = .ok (.getfield 13, 3) := by decide +kernel
theorem dX7_copy_54 : decode cX7_copy 54 = .ok (.iload_n 1, 1) := by decide +kernel
theorem dX7_copy_55 : decode cX7_copy 55 = .ok (.laload, 1) := by decide +kernel
theorem dX7_copy_56 : decode cX7_copy 56 = .ok (.lcmp, 1) := by decide +kernel
theorem dX7_copy_57 : decode cX7_copy 57 = .ok (.ifCond .ge 7, 3) := by decide +kernel
theorem dX7_copy_60 : decode cX7_copy 60 = .ok (.iconst (-1), 1) := by decide +kernel
theorem dX7_copy_61 : decode cX7_copy 61 = .ok (.goto 48, 3) := by decide +kernel
theorem dX7_copy_64 : decode cX7_copy 64 = .ok (.aload_n 0, 1) := by decide +kernel
theorem dX7_copy_65 : decode cX7_copy 65 = .ok (.getfield 13, 3) := by decide +kernel
theorem dX7_copy_68 : decode cX7_copy 68 = .ok (.iload_n 2, 1) := by decide +kernel
theorem dX7_copy_69 : decode cX7_copy 69 = .ok (.laload, 1) := by decide +kernel
theorem dX7_copy_70 : decode cX7_copy 70 = .ok (.aload_n 0, 1) := by decide +kernel
theorem dX7_copy_71 : decode cX7_copy 71 = .ok (.getfield 13, 3) := by decide +kernel
theorem dX7_copy_74 : decode cX7_copy 74 = .ok (.iload_n 1, 1) := by decide +kernel
theorem dX7_copy_75 : decode cX7_copy 75 = .ok (.laload, 1) := by decide +kernel
theorem dX7_copy_76 : decode cX7_copy 76 = .ok (.lcmp, 1) := by decide +kernel
theorem dX7_copy_77 : decode cX7_copy 77 = .ok (.ifCond .le 7, 3) := by decide +kernel
theorem dX7_copy_80 : decode cX7_copy 80 = .ok (.iconst 1, 1) := by decide +kernel
theorem dX7_copy_81 : decode cX7_copy 81 = .ok (.goto 28, 3) := by decide +kernel
theorem dX7_copy_84 : decode cX7_copy 84 = .ok (.iconst 0, 1) := by decide +kernel
theorem dX7_copy_85 : decode cX7_copy 85 = .ok (.goto 24, 3) := by decide +kernel
theorem dX7_copy_88 : decode cX7_copy 88 = .ok (.aload_n 0, 1) := by decide +kernel
theorem dX7_copy_89 : decode cX7_copy 89 = .ok (.getfield 7, 3) := by decide +kernel
theorem dX7_copy_92 : decode cX7_copy 92 = .ok (.iload_n 2, 1) := by decide +kernel
theorem dX7_copy_93 : decode cX7_copy 93 = .ok (.laload, 1) := by decide +kernel
theorem dX7_copy_94 : decode cX7_copy 94 = .ok (.aload_n 0, 1) := by decide +kernel
theorem dX7_copy_95 : decode cX7_copy 95 = .ok (.getfield 7, 3) := by decide +kernel
theorem dX7_copy_98 : decode cX7_copy 98 = .ok (.iload_n 1, 1) := by decide +kernel
theorem dX7_copy_99 : decode cX7_copy 99 = .ok (.laload, 1) := by decide +kernel
theorem dX7_copy_100 : decode cX7_copy 100 = .ok (.lcmp, 1) := by decide +kernel
theorem dX7_copy_101 : decode cX7_copy 101 = .ok (.ifCond .ge 7, 3) := by decide +kernel
theorem dX7_copy_104 : decode cX7_copy 104 = .ok (.iconst (-1), 1) := by decide +kernel
theorem dX7_copy_105 : decode cX7_copy 105 = .ok (.goto 4, 3) := by decide +kernel
theorem dX7_copy_108 : decode cX7_copy 108 = .ok (.iconst 1, 1) := by decide +kernel
theorem dX7_copy_109 : decode cX7_copy 109 = .ok (.istore 4, 2) := by decide +kernel
theorem dX7_copy_111 : decode cX7_copy 111 = .ok (.aload_n 0, 1) := by decide +kernel
theorem dX7_copy_112 : decode cX7_copy 112 = .ok (.getfield 7, 3) := by decide +kernel
theorem dX7_copy_115 : decode cX7_copy 115 = .ok (.iload_n 2, 1) := by decide +kernel
theorem dX7_copy_116 : decode cX7_copy 116 = .ok (.aload_n 0, 1) := by decide +kernel
theorem dX7_copy_117 : decode cX7_copy 117 = .ok (.getfield 7, 3) := by decide +kernel
theorem dX7_copy_120 : decode cX7_copy 120 = .ok (.iload_n 1, 1) := by decide +kernel
theorem dX7_copy_121 : decode cX7_copy 121 = .ok (.laload, 1) := by decide +kernel
theorem dX7_copy_122 : decode cX7_copy 122 = .ok (.lastore, 1) := by decide +kernel
theorem dX7_copy_123 : decode cX7_copy 123 = .ok (.aload_n 0, 1) := by decide +kernel
theorem dX7_copy_124 : decode cX7_copy 124 = .ok (.getfield 13, 3) := by decide +kernel
theorem dX7_copy_127 : decode cX7_copy 127 = .ok (.iload_n 2, 1) := by decide +kernel
theorem dX7_copy_128 : decode cX7_copy 128 = .ok (.aload_n 0, 1) := by decide +kernel
theorem dX7_copy_129 : decode cX7_copy 129 = .ok (.getfield 13, 3) := by decide +kernel
theorem dX7_copy_132 : decode cX7_copy 132 = .ok (.iload_n 1, 1) := by decide +kernel
theorem dX7_copy_133 : decode cX7_copy 133 = .ok (.laload, 1) := by decide +kernel
theorem dX7_copy_134 : decode cX7_copy 134 = .ok (.lastore, 1) := by decide +kernel
theorem dX7_copy_135 : decode cX7_copy 135 = .ok (.iload 4, 2) := by decide +kernel
theorem dX7_copy_137 : decode cX7_copy 137 = .ok (.ireturn, 1) := by decide +kernel
theorem dX7_isMoment_0 : decode cX7_isMoment 0 = .ok (.lload_n 0, 1) := by decide +kernel
theorem dX7_isMoment_1 : decode cX7_isMoment 1 = .ok (.ldc2_w 212, 3) := by decide +kernel
theorem dX7_isMoment_4 : decode cX7_isMoment 4 = .ok (.ldc2_w 214, 3) := by decide +kernel
theorem dX7_isMoment_7 : decode cX7_isMoment 7 = .ok (.invokestatic 102, 3) := by decide +kernel
theorem dX7_isMoment_10 : decode cX7_isMoment 10 = .ok (.ireturn, 1) := by decide +kernel
theorem dX7_zone_0 : decode cX7_zone 0 = .ok (.aload_n 0, 1) := by decide +kernel
theorem dX7_zone_1 : decode cX7_zone 1 = .ok (.iconst 0, 1) := by decide +kernel
theorem dX7_zone_2 : decode cX7_zone 2 = .ok (.putfield 41, 3) := by decide +kernel
theorem dX7_zone_5 : decode cX7_zone 5 = .ok (.iload_n 1, 1) := by decide +kernel
theorem dX7_zone_6 : decode cX7_zone 6 = .ok (.i2l, 1) := by decide +kernel
theorem dX7_zone_7 : decode cX7_zone 7 = .ok (.lconst 0, 1) := by decide +kernel
theorem dX7_zone_8 : decode cX7_zone 8 = .ok (.ldc2_w 90, 3) := by decide +kernel
theorem dX7_zone_11 : decode cX7_zone 11 = .ok (.invokestatic 102, 3) := by decide +kernel
theorem dX7_zone_14 : decode cX7_zone 14 = .ok (.ifCond .eq 17, 3) := by decide +kernel
theorem dX7_zone_17 : decode cX7_zone 17 = .ok (.iload_n 2, 1) := by decide +kernel
theorem dX7_zone_18 : decode cX7_zone 18 = .ok (.i2l, 1) := by decide +kernel
theorem dX7_zone_19 : decode cX7_zone 19 = .ok (.ldc2_w 216, 3) := by decide +kernel
theorem dX7_zone_22 : decode cX7_zone 22 = .ok (.ldc2_w 218, 3) := by decide +kernel
theorem dX7_zone_25 : decode cX7_zone 25 = .ok (.invokestatic 102, 3) := by decide +kernel
theorem dX7_zone_28 : decode cX7_zone 28 = .ok (.ifCond .ne 5, 3) := by decide +kernel
theorem dX7_zone_31 : decode cX7_zone 31 = .ok (.iconst 0, 1) := by decide +kernel
theorem dX7_zone_32 : decode cX7_zone 32 = .ok (.ireturn, 1) := by decide +kernel
theorem dX7_zone_33 : decode cX7_zone 33 = .ok (.aload_n 0, 1) := by decide +kernel
theorem dX7_zone_34 : decode cX7_zone 34 = .ok (.getfield 16, 3) := by decide +kernel
theorem dX7_zone_37 : decode cX7_zone 37 = .ok (.iload_n 1, 1) := by decide +kernel
theorem dX7_zone_38 : decode cX7_zone 38 = .ok (.iload_n 2, 1) := by decide +kernel
theorem dX7_zone_39 : decode cX7_zone 39 = .ok (.iastore, 1) := by decide +kernel
theorem dX7_zone_40 : decode cX7_zone 40 = .ok (.aload_n 0, 1) := by decide +kernel
theorem dX7_zone_41 : decode cX7_zone 41 = .ok (.getfield 20, 3) := by decide +kernel
theorem dX7_zone_44 : decode cX7_zone 44 = .ok (.iload_n 1, 1) := by decide +kernel
theorem dX7_zone_45 : decode cX7_zone 45 = .ok (.iconst 0, 1) := by decide +kernel
theorem dX7_zone_46 : decode cX7_zone 46 = .ok (.iastore, 1) := by decide +kernel
theorem dX7_zone_47 : decode cX7_zone 47 = .ok (.aload_n 0, 1) := by decide +kernel
theorem dX7_zone_48 : decode cX7_zone 48 = .ok (.getfield 29, 3) := by decide +kernel
theorem dX7_zone_51 : decode cX7_zone 51 = .ok (.iload_n 1, 1) := by decide +kernel
theorem dX7_zone_52 : decode cX7_zone 52 = .ok (.iconst 0, 1) := by decide +kernel
theorem dX7_zone_53 : decode cX7_zone 53 = .ok (.iastore, 1) := by decide +kernel
theorem dX7_zone_54 : decode cX7_zone 54 = .ok (.iconst 1, 1) := by decide +kernel
theorem dX7_zone_55 : decode cX7_zone 55 = .ok (.ireturn, 1) := by decide +kernel
theorem dX7_lastOf_0 : decode cX7_lastOf 0 = .ok (.aload_n 0, 1) := by decide +kernel
theorem dX7_lastOf_1 : decode cX7_lastOf 1 = .ok (.getfield 20, 3) := by decide +kernel
theorem dX7_lastOf_4 : decode cX7_lastOf 4 = .ok (.iload_n 1, 1) := by decide +kernel
