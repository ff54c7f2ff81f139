theorem dX7_parse_16 : decode cX7_parse 16 = .ok (.putfield 260, 3) := by decide +kernel
theorem dX7_parse_19 : decode cX7_parse 19 = .ok (.aload_n 0, 1) := by decide +kernel
theorem dX7_parse_20 : decode cX7_parse 20 = .ok (.bipush 45, 2) := by decide +kernel
theorem dX7_parse_22 : decode cX7_parse 22 = .ok (.invokevirtual 257, 3) := by decide +kernel
theorem dX7_parse_25 : decode cX7_parse 25 = .ok (.istore_n 2, 1) := by decide +kernel
theorem dX7_parse_26 : decode cX7_parse 26 = .ok (.aload_n 0, 1) := by decide +kernel
theorem dX7_parse_27 : decode cX7_parse 27 = .ok (.iconst 4, 1) := by decide +kernel
theorem dX7_parse_28 : decode cX7_parse 28 = .ok (.invokevirtual 268, 3) := by decide +kernel
theorem dX7_parse_31 : decode cX7_parse 31 = .ok (.istore_n 3, 1) := by decide +kernel
theorem dX7_parse_32 : decode cX7_parse 32 = .ok (.aload_n 0, 1) := by decide +kernel
theorem dX7_parse_33 : decode cX7_parse 33 = .ok (.aload_n 0, 1) := by decide +kernel
theorem dX7_parse_34 : decode cX7_parse 34 = .ok (.getfield 260, 3) := by decide +kernel
theorem dX7_parse_37 : decode cX7_parse 37 = .ok (.ifCond .ne 11, 3) := by decide +kernel
theorem dX7_parse_40 : decode cX7_parse 40 = .ok (.iload_n 2, 1) := by decide +kernel
theorem dX7_parse_41 : decode cX7_parse 41 = .ok (.ifCond .eq 11, 3) := by decide +kernel
theorem dX7_parse_44 : decode cX7_parse 44 = .ok (.iload_n 3, 1) := by decide +kernel
theorem dX7_parse_45 : decode cX7_parse 45 = .ok (.ifCond .ne 7, 3) := by decide +kernel
theorem dX7_parse_48 : decode cX7_parse 48 = .ok (.iconst 1, 1) := by decide +kernel
theorem dX7_parse_49 : decode cX7_parse 49 = .ok (.goto 4, 3) := by decide +kernel
theorem dX7_parse_52 : decode cX7_parse 52 = .ok (.iconst 0, 1) := by decide +kernel
theorem dX7_parse_53 : decode cX7_parse 53 = .ok (.putfield 260, 3) := by decide +kernel
theorem dX7_parse_56 : decode cX7_parse 56 = .ok (.aload_n 0, 1) := by decide +kernel
theorem dX7_parse_57 : decode cX7_parse 57 = .ok (.bipush 45, 2) := by decide +kernel
theorem dX7_parse_59 : decode cX7_parse 59 = .ok (.invokevirtual 272, 3) := by decide +kernel
theorem dX7_parse_62 : decode cX7_parse 62 = .ok (.aload_n 0, 1) := by decide +kernel
theorem dX7_parse_63 : decode cX7_parse 63 = .ok (.iconst 2, 1) := by decide +kernel
theorem dX7_parse_64 : decode cX7_parse 64 = .ok (.invokevirtual 268, 3) := by decide +kernel
theorem dX7_parse_67 : decode cX7_parse 67 = .ok (.istore 4, 2) := by decide +kernel
theorem dX7_parse_69 : decode cX7_parse 69 = .ok (.aload_n 0, 1) := by decide +kernel
theorem dX7_parse_70 : decode cX7_parse 70 = .ok (.bipush 45, 2) := by decide +kernel
theorem dX7_parse_72 : decode cX7_parse 72 = .ok (.invokevirtual 272, 3) := by decide +kernel
theorem dX7_parse_75 : decode cX7_parse 75 = .ok (.aload_n 0, 1) := by decide +kernel
theorem dX7_parse_76 : decode cX7_parse 76 = .ok (.iconst 2, 1) := by decide +kernel
theorem dX7_parse_77 : decode cX7_parse 77 = .ok (.invokevirtual 268, 3) := by decide +kernel
theorem dX7_parse_80 : decode cX7_parse 80 = .ok (.istore 5, 2) := by decide +kernel
theorem dX7_parse_82 : decode cX7_parse 82 = .ok (.aload_n 0, 1) := by decide +kernel
theorem dX7_parse_83 : decode cX7_parse 83 = .ok (.bipush 84, 2) := by decide +kernel
theorem dX7_parse_85 : decode cX7_parse 85 = .ok (.invokevirtual 257, 3) := by decide +kernel
theorem dX7_parse_88 : decode cX7_parse 88 = .ok (.ifCond .eq 10, 3) := by decide +kernel
theorem dX7_parse_91 : decode cX7_parse 91 = .ok (.aload_n 0, 1) := by decide +kernel
theorem dX7_parse_92 : decode cX7_parse 92 = .ok (.invokevirtual 276, 3) := by decide +kernel
theorem dX7_parse_95 : decode cX7_parse 95 = .ok (.goto 4, 3) := by decide +kernel
theorem dX7_parse_98 : decode cX7_parse 98 = .ok (.lconst 0, 1) := by decide +kernel
theorem dX7_parse_99 : decode cX7_parse 99 = .ok (.lstore 6, 2) := by decide +kernel
theorem dX7_parse_101 : decode cX7_parse 101 = .ok (.aload_n 0, 1) := by decide +kernel
theorem dX7_parse_102 : decode cX7_parse 102 = .ok (.aload_n 0, 1) := by decide +kernel
theorem dX7_parse_103 : decode cX7_parse 103 = .ok (.getfield 260, 3) := by decide +kernel
theorem dX7_parse_106 : decode cX7_parse 106 = .ok (.ifCond .ne 36, 3) := by decide +kernel
theorem dX7_parse_109 : decode cX7_parse 109 = .ok (.aload_n 0, 1) := by decide +kernel
theorem dX7_parse_110 : decode cX7_parse 110 = .ok (.getfield 254, 3) := by decide +kernel
theorem dX7_parse_113 : decode cX7_parse 113 = .ok (.aload_n 0, 1) := by decide +kernel
theorem dX7_parse_114 : decode cX7_parse 114 = .ok (.getfield 251, 3) := by decide +kernel
theorem dX7_parse_117 : decode cX7_parse 117 = .ok (.if_icmp .lt 25, 3) := by decide +kernel
theorem dX7_parse_120 : decode cX7_parse 120 = .ok (.iload_n 2, 1) := by decide +kernel
theorem dX7_parse_121 : decode cX7_parse 121 = .ok (.ifCond .eq 9, 3) := by decide +kernel
theorem dX7_parse_124 : decode cX7_parse 124 = .ok (.iload_n 3, 1) := by decide +kernel
theorem dX7_parse_125 : decode cX7_parse 125 = .ok (.ineg, 1) := by decide +kernel
theorem dX7_parse_126 : decode cX7_parse 126 = .ok (.i2l, 1) := by decide +kernel
theorem dX7_parse_127 : decode cX7_parse 127 = .ok (.goto 5, 3) := by decide +kernel
theorem dX7_parse_130 : decode cX7_parse 130 = .ok (.iload_n 3, 1) := by decide +kernel
theorem dX7_parse_131 : decode cX7_parse 131 = .ok (.i2l, 1) := by decide +kernel
theorem dX7_parse_132 : decode cX7_parse 132 = .ok (.iload 4, 2) := by decide +kernel
theorem dX7_parse_134 : decode cX7_parse 134 = .ok (.iload 5, 2) := by decide +kernel
theorem dX7_parse_136 : decode cX7_parse 136 = .ok (.invokestatic 124, 3) := by decide +kernel
theorem dX7_parse_139 : decode cX7_parse 139 = .ok (.ifCond .ne 7, 3) := by decide +kernel
theorem dX7_parse_142 : decode cX7_parse 142 = .ok (.iconst 1, 1) := by decide +kernel
theorem dX7_parse_143 : decode cX7_parse 143 = .ok (.goto 4, 3) := by decide +kernel
theorem dX7_parse_146 : decode cX7_parse 146 = .ok (.iconst 0, 1) := by decide +kernel
theorem dX7_parse_147 : decode cX7_parse 147 = .ok (.putfield 260, 3) := by decide +kernel
theorem dX7_parse_150 : decode cX7_parse 150 = .ok (.aload_n 0, 1) := by decide +kernel
theorem dX7_parse_151 : decode cX7_parse 151 = .ok (.iconst 0, 1) := by decide +kernel
theorem dX7_parse_152 : decode cX7_parse 152 = .ok (.putfield 251, 3) := by decide +kernel
theorem dX7_parse_155 : decode cX7_parse 155 = .ok (.aload_n 0, 1) := by decide +kernel
theorem dX7_parse_156 : decode cX7_parse 156 = .ok (.aload_n 0, 1) := by decide +kernel
theorem dX7_parse_157 : decode cX7_parse 157 = .ok (.getfield 260, 3) := by decide +kernel
theorem dX7_parse_160 : decode cX7_parse 160 = .ok (.ifCond .eq 7, 3) := by decide +kernel
theorem dX7_parse_163 : decode cX7_parse 163 = .ok (.iconst 2, 1) := by decide +kernel
theorem dX7_parse_164 : decode cX7_parse 164 = .ok (.goto 4, 3) := by decide +kernel
theorem dX7_parse_167 : decode cX7_parse 167 = .ok (.iconst 0, 1) := by decide +kernel
theorem dX7_parse_168 : decode cX7_parse 168 = .ok (.putfield 41, 3) := by decide +kernel
theorem dX7_parse_171 : decode cX7_parse 171 = .ok (.aload_n 0, 1) := by decide +kernel
theorem dX7_parse_172 : decode cX7_parse 172 = .ok (.getfield 260, 3) := by decide +kernel
theorem dX7_parse_175 : decode cX7_parse 175 = .ok (.ifCond .ne 36, 3) := by decide +kernel
theorem dX7_parse_178 : decode cX7_parse 178 = .ok (.aload_n 0, 1) := by decide +kernel
theorem dX7_parse_179 : decode cX7_parse 179 = .ok (.getfield 7, 3) := by decide +kernel
theorem dX7_parse_182 : decode cX7_parse 182 = .ok (.iload_n 1, 1) := by decide +kernel
theorem dX7_parse_183 : decode cX7_parse 183 = .ok (.iload_n 2, 1) := by decide +kernel
theorem dX7_parse_184 : decode cX7_parse 184 = .ok (.ifCond .eq 9, 3) := by decide +kernel
theorem dX7_parse_187 : decode cX7_parse 187 = .ok (.iload_n 3, 1) := by decide +kernel
theorem dX7_parse_188 : decode cX7_parse 188 = .ok (.ineg, 1) := by decide +kernel
theorem dX7_parse_189 : decode cX7_parse 189 = .ok (.i2l, 1) := by decide +kernel
theorem dX7_parse_190 : decode cX7_parse 190 = .ok (.goto 5, 3) := by decide +kernel
theorem dX7_parse_193 : decode cX7_parse 193 = .ok (.iload_n 3, 1) := by decide +kernel
theorem dX7_parse_194 : decode cX7_parse 194 = .ok (.i2l, 1) := by decide +kernel
theorem dX7_parse_195 : decode cX7_parse 195 = .ok (.iload 4, 2) := by decide +kernel
theorem dX7_parse_197 : decode cX7_parse 197 = .ok (.iload 5, 2) := by decide +kernel
theorem dX7_parse_199 : decode cX7_parse 199 = .ok (.invokestatic 96, 3) := by decide +kernel
theorem dX7_parse_202 : decode cX7_parse 202 = .ok (.lastore, 1) := by decide +kernel
theorem dX7_parse_203 : decode cX7_parse 203 = .ok (.aload_n 0, 1) := by decide +kernel
theorem dX7_parse_204 : decode cX7_parse 204 = .ok (.getfield 13, 3) := by decide +kernel
theorem dX7_parse_207 : decode cX7_parse 207 = .ok (.iload_n 1, 1) := by decide +kernel
theorem dX7_parse_208 : decode cX7_parse 208 = .ok (.lload 6, 2) := by decide +kernel
theorem dX7_parse_210 : decode cX7_parse 210 = .ok (.lastore, 1) := by decide +kernel
theorem dX7_parse_211 : decode cX7_parse 211 = .ok (.return_, 1) := by decide +kernel
theorem dX7_timeIn_0 : decode cX7_timeIn 0 = .ok (.aload_n 0, 1) := by decide +kernel
theorem dX7_timeIn_1 : decode cX7_timeIn 1 = .ok (.iconst 2, 1) := by decide +kernel
theorem dX7_timeIn_2 : decode cX7_timeIn 2 = .ok (.invokevirtual 268, 3) := by decide +kernel
theorem dX7_timeIn_5 : decode cX7_timeIn 5 = .ok (.istore_n 1, 1) := by decide +kernel
theorem dX7_timeIn_6 : decode cX7_timeIn 6 = .ok (.aload_n 0, 1) := by decide +kernel
theorem dX7_timeIn_7 : decode cX7_timeIn 7 = .ok (.bipush 58, 2) := by decide +kernel
theorem dX7_timeIn_9 : decode cX7_timeIn 9 = .ok (.invokevirtual 272, 3) := by decide +kernel
theorem dX7_timeIn_12 : decode cX7_timeIn 12 = .ok (.aload_n 0, 1) := by decide +kernel
theorem dX7_timeIn_13 : decode cX7_timeIn 13 = .ok (.iconst 2, 1) := by decide +kernel
theorem dX7_timeIn_14 : decode cX7_timeIn 14 = .ok (.invokevirtual 268, 3) := by decide +kernel
theorem dX7_timeIn_17 : decode cX7_timeIn 17 = .ok (.istore_n 2, 1) := by decide +kernel
theorem dX7_timeIn_18 : decode cX7_timeIn 18 = .ok (.iconst 0, 1) := by decide +kernel
theorem dX7_timeIn_19 : decode cX7_timeIn 19 = .ok (.istore_n 3, 1) := by decide +kernel
theorem dX7_timeIn_20 : decode cX7_timeIn 20 = .ok (.lconst 0, 1) := by decide +kernel
theorem dX7_timeIn_21 : decode cX7_timeIn 21 = .ok (.lstore 4, 2) := by decide +kernel
theorem dX7_timeIn_23 : decode cX7_timeIn 23 = .ok (.aload_n 0, 1) := by decide +kernel
theorem dX7_timeIn_24 : decode cX7_timeIn 24 = .ok (.bipush 58, 2) := by decide +kernel
theorem dX7_timeIn_26 : decode cX7_timeIn 26 = .ok (.invokevirtual 257, 3) := by decide +kernel
theorem dX7_timeIn_29 : decode cX7_timeIn 29 = .ok (.ifCond .eq 100, 3) := by decide +kernel
theorem dX7_timeIn_32 : decode cX7_timeIn 32 = .ok (.aload_n 0, 1) := by decide +kernel
theorem dX7_timeIn_33 : decode cX7_timeIn 33 = .ok (.iconst 2, 1) := by decide +kernel
theorem dX7_timeIn_34 : decode cX7_timeIn 34 = .ok (.invokevirtual 268, 3) := by decide +kernel
theorem dX7_timeIn_37 : decode cX7_timeIn 37 = .ok (.istore_n 3, 1) := by decide +kernel
theorem dX7_timeIn_38 : decode cX7_timeIn 38 = .ok (.aload_n 0, 1) := by decide +kernel
theorem dX7_timeIn_39 : decode cX7_timeIn 39 = .ok (.bipush 46, 2) := by decide +kernel
theorem dX7_timeIn_41 : decode cX7_timeIn 41 = .ok (.invokevirtual 257, 3) := by decide +kernel
theorem dX7_timeIn_44 : decode cX7_timeIn 44 = .ok (.ifCond .eq 85, 3) := by decide +kernel
theorem dX7_timeIn_47 : decode cX7_timeIn 47 = .ok (.aload_n 0, 1) := by decide +kernel
theorem dX7_timeIn_48 : decode cX7_timeIn 48 = .ok (.getfield 251, 3) := by decide +kernel
theorem dX7_timeIn_51 : decode cX7_timeIn 51 = .ok (.aload_n 0, 1) := by decide +kernel
theorem dX7_timeIn_52 : decode cX7_timeIn 52 = .ok (.getfield 254, 3) := by decide +kernel
theorem dX7_timeIn_55 : decode cX7_timeIn 55 = .ok (.isub, 1) := by decide +kernel
theorem dX7_timeIn_56 : decode cX7_timeIn 56 = .ok (.istore 6, 2) := by decide +kernel
theorem dX7_timeIn_58 : decode cX7_timeIn 58 = .ok (.aload_n 0, 1) := by decide +kernel
theorem dX7_timeIn_59 : decode cX7_timeIn 59 = .ok (.aload_n 0, 1) := by decide +kernel
theorem dX7_timeIn_60 : decode cX7_timeIn 60 = .ok (.getfield 260, 3) := by decide +kernel
theorem dX7_timeIn_63 : decode cX7_timeIn 63 = .ok (.ifCond .ne 16, 3) := by decide +kernel
theorem dX7_timeIn_66 : decode cX7_timeIn 66 = .ok (.iload 6, 2) := by decide +kernel
theorem dX7_timeIn_68 : decode cX7_timeIn 68 = .ok (.iconst 1, 1) := by decide +kernel
theorem dX7_timeIn_69 : decode cX7_timeIn 69 = .ok (.if_icmp .lt 10, 3) := by decide +kernel
theorem dX7_timeIn_72 : decode cX7_timeIn 72 = .ok (.iload 6, 2) := by decide +kernel
theorem dX7_timeIn_74 : decode cX7_timeIn 74 = .ok (.bipush 9, 2) := by decide +kernel
theorem dX7_timeIn_76 : decode cX7_timeIn 76 = .ok (.if_icmp .le 7, 3) := by decide +kernel
theorem dX7_timeIn_79 : decode cX7_timeIn 79 = .ok (.iconst 1, 1) := by decide +kernel
theorem dX7_timeIn_80 : decode cX7_timeIn 80 = .ok (.goto 4, 3) := by decide +kernel
theorem dX7_timeIn_83 : decode cX7_timeIn 83 = .ok (.iconst 0, 1) := by decide +kernel
theorem dX7_timeIn_84 : decode cX7_timeIn 84 = .ok (.putfield 260, 3) := by decide +kernel
theorem dX7_timeIn_87 : decode cX7_timeIn 87 = .ok (.iconst 0, 1) := by decide +kernel
theorem dX7_timeIn_88 : decode cX7_timeIn 88 = .ok (.istore 7, 2) := by decide +kernel
theorem dX7_timeIn_90 : decode cX7_timeIn 90 = .ok (.iload 7, 2) := by decide +kernel
theorem dX7_timeIn_92 : decode cX7_timeIn 92 = .ok (.bipush 9, 2) := by decide +kernel
theorem dX7_timeIn_94 : decode cX7_timeIn 94 = .ok (.if_icmp .ge 35, 3) := by decide +kernel
theorem dX7_timeIn_97 : decode cX7_timeIn 97 = .ok (.ldc2_w 280, 3) := by decide +kernel
theorem dX7_timeIn_100 : decode cX7_timeIn 100 = .ok (.lload 4, 2) := by decide +kernel
theorem dX7_timeIn_102 : decode cX7_timeIn 102 = .ok (.lmul, 1) := by decide +kernel
theorem dX7_timeIn_103 : decode cX7_timeIn 103 = .ok (.iload 7, 2) := by decide +kernel
theorem dX7_timeIn_105 : decode cX7_timeIn 105 = .ok (.iload 6, 2) := by decide +kernel
theorem dX7_timeIn_107 : decode cX7_timeIn 107 = .ok (.if_icmp .ge 11, 3) := by decide +kernel
theorem dX7_timeIn_110 : decode cX7_timeIn 110 = .ok (.aload_n 0, 1) := by decide +kernel
theorem dX7_timeIn_111 : decode cX7_timeIn 111 = .ok (.iconst 1, 1) := by decide +kernel
theorem dX7_timeIn_112 : decode cX7_timeIn 112 = .ok (.invokevirtual 268, 3) := by decide +kernel
theorem dX7_timeIn_115 : decode cX7_timeIn 115 = .ok (.goto 4, 3) := by decide +kernel
theorem dX7_timeIn_118 : decode cX7_timeIn 118 = .ok (.iconst 0, 1) := by decide +kernel
theorem dX7_timeIn_119 : decode cX7_timeIn 119 = .ok (.i2l, 1) := by decide +kernel
theorem dX7_timeIn_120 : decode cX7_timeIn 120 = .ok (.ladd, 1) := by decide +kernel
theorem dX7_timeIn_121 : decode cX7_timeIn 121 = .ok (.lstore 4, 2) := by decide +kernel
theorem dX7_timeIn_123 : decode cX7_timeIn 123 = .ok (.iinc 7 1, 3) := by decide +kernel
theorem dX7_timeIn_126 : decode cX7_timeIn 126 = .ok (.goto (-36), 3) := by decide +kernel
theorem dX7_timeIn_129 : decode cX7_timeIn 129 = .ok (.aload_n 0, 1) := by decide +kernel
theorem dX7_timeIn_130 : decode cX7_timeIn 130 = .ok (.aload_n 0, 1) := by decide +kernel
theorem dX7_timeIn_131 : decode cX7_timeIn 131 = .ok (.getfield 260, 3) := by decide +kernel
theorem dX7_timeIn_134 : decode cX7_timeIn 134 = .ok (.ifCond .ne 21, 3) := by decide +kernel
theorem dX7_timeIn_137 : decode cX7_timeIn 137 = .ok (.iload_n 1, 1) := by decide +kernel
theorem dX7_timeIn_138 : decode cX7_timeIn 138 = .ok (.bipush 23, 2) := by decide +kernel
theorem dX7_timeIn_140 : decode cX7_timeIn 140 = .ok (.if_icmp .gt 15, 3) := by decide +kernel
theorem dX7_timeIn_143 : decode cX7_timeIn 143 = .ok (.iload_n 2, 1) := by decide +kernel
theorem dX7_timeIn_144 : decode cX7_timeIn 144 = .ok (.bipush 59, 2) := by decide +kernel
theorem dX7_timeIn_146 : decode cX7_timeIn 146 = .ok (.if_icmp .gt 9, 3) := by decide +kernel
theorem dX7_timeIn_149 : decode cX7_timeIn 149 = .ok (.iload_n 3, 1) := by decide +kernel
theorem dX7_timeIn_150 : decode cX7_timeIn 150 = .ok (.bipush 59, 2) := by decide +kernel
theorem dX7_timeIn_152 : decode cX7_timeIn 152 = .ok (.if_icmp .le 7, 3) := by decide +kernel
theorem dX7_timeIn_155 : decode cX7_timeIn 155 = .ok (.iconst 1, 1) := by decide +kernel
theorem dX7_timeIn_156 : decode cX7_timeIn 156 = .ok (.goto 4, 3) := by decide +kernel
theorem dX7_timeIn_159 : decode cX7_timeIn 159 = .ok (.iconst 0, 1) := by decide +kernel
theorem dX7_timeIn_160 : decode cX7_timeIn 160 = .ok (.putfield 260, 3) := by decide +kernel
theorem dX7_timeIn_163 : decode cX7_timeIn 163 = .ok (.ldc2_w 282, 3) := by decide +kernel
theorem dX7_timeIn_166 : decode cX7_timeIn 166 = .ok (.iload_n 1, 1) := by decide +kernel
theorem dX7_timeIn_167 : decode cX7_timeIn 167 = .ok (.i2l, 1) := by decide +kernel
theorem dX7_timeIn_168 : decode cX7_timeIn 168 = .ok (.lmul, 1) := by decide +kernel
theorem dX7_timeIn_169 : decode cX7_timeIn 169 = .ok (.ldc2_w 150, 3) := by decide +kernel
theorem dX7_timeIn_172 : decode cX7_timeIn 172 = .ok (.iload_n 2, 1) := by decide +kernel
theorem dX7_timeIn_173 : decode cX7_timeIn 173 = .ok (.i2l, 1) := by decide +kernel
theorem dX7_timeIn_174 : decode cX7_timeIn 174 = .ok (.lmul, 1) := by decide +kernel
theorem dX7_timeIn_175 : decode cX7_timeIn 175 = .ok (.ladd, 1) := by decide +kernel
theorem dX7_timeIn_176 : decode cX7_timeIn 176 = .ok (.iload_n 3, 1) := by decide +kernel
theorem dX7_timeIn_177 : decode cX7_timeIn 177 = .ok (.i2l, 1) := by decide +kernel
theorem dX7_timeIn_178 : decode cX7_timeIn 178 = .ok (.ladd, 1) := by decide +kernel
theorem dX7_timeIn_179 : decode cX7_timeIn 179 = .ok (.ldc2_w 134, 3) := by decide +kernel
theorem dX7_timeIn_182 : decode cX7_timeIn 182 = .ok (.lmul, 1) := by decide +kernel
theorem dX7_timeIn_183 : decode cX7_timeIn 183 = .ok (.lload 4, 2) := by decide +kernel
theorem dX7_timeIn_185 : decode cX7_timeIn 185 = .ok (.ladd, 1) := by decide +kernel
theorem dX7_timeIn_186 : decode cX7_timeIn 186 = .ok (.lreturn, 1) := by decide +kernel
theorem dX7_put_0 : decode cX7_put 0 = .ok (.aload_n 0, 1) := by decide +kernel
theorem dX7_put_1 : decode cX7_put 1 = .ok (.getfield 38, 3) := by decide +kernel
theorem dX7_put_4 : decode cX7_put 4 = .ok (.aload_n 0, 1) := by decide +kernel
theorem dX7_put_5 : decode cX7_put 5 = .ok (.getfield 284, 3) := by decide +kernel
theorem dX7_put_8 : decode cX7_put 8 = .ok (.iload_n 1, 1) := by decide +kernel
theorem dX7_put_9 : decode cX7_put 9 = .ok (.iastore, 1) := by decide +kernel
theorem dX7_put_10 : decode cX7_put 10 = .ok (.aload_n 0, 1) := by decide +kernel
theorem dX7_put_11 : decode cX7_put 11 = .ok (.dup, 1) := by decide +kernel
theorem dX7_put_12 : decode cX7_put 12 = .ok (.getfield 284, 3) := by decide +kernel
theorem dX7_put_15 : decode cX7_put 15 = .ok (.iconst 1, 1) := by decide +kernel
theorem dX7_put_16 : decode cX7_put 16 = .ok (.iadd, 1) := by decide +kernel
theorem dX7_put_17 : decode cX7_put 17 = .ok (.putfield 284, 3) := by decide +kernel
theorem dX7_put_20 : decode cX7_put 20 = .ok (.return_, 1) := by decide +kernel
theorem dX7_number_0 : decode cX7_number 0 = .ok (.iload_n 3, 1) := by decide +kernel
theorem dX7_number_1 : decode cX7_number 1 = .ok (.iconst 1, 1) := by decide +kernel
theorem dX7_number_2 : decode cX7_number 2 = .ok (.isub, 1) := by decide +kernel
theorem dX7_number_3 : decode cX7_number 3 = .ok (.istore 4, 2) := by decide +kernel
theorem dX7_number_5 : decode cX7_number 5 = .ok (.iload 4, 2) := by decide +kernel
theorem dX7_number_7 : decode cX7_number 7 = .ok (.ifCond .lt 50, 3) := by decide +kernel
theorem dX7_number_10 : decode cX7_number 10 = .ok (.lload_n 1, 1) := by decide +kernel
theorem dX7_number_11 : decode cX7_number 11 = .ok (.lstore 5, 2) := by decide +kernel
theorem dX7_number_13 : decode cX7_number 13 = .ok (.iconst 0, 1) := by decide +kernel
theorem dX7_number_14 : decode cX7_number 14 = .ok (.istore 7, 2) := by decide +kernel
theorem dX7_number_16 : decode cX7_number 16 = .ok (.iload 7, 2) := by decide +kernel
theorem dX7_number_18 : decode cX7_number 18 = .ok (.iload 4, 2) := by decide +kernel
theorem dX7_number_20 : decode cX7_number 20 = .ok (.if_icmp .ge 17, 3) := by decide +kernel
theorem dX7_number_23 : decode cX7_number 23 = .ok (.lload 5, 2) := by decide +kernel
theorem dX7_number_25 : decode cX7_number 25 = .ok (.ldc2_w 280, 3) := by decide +kernel
theorem dX7_number_28 : decode cX7_number 28 = .ok (.ldiv, 1) := by decide +kernel
theorem dX7_number_29 : decode cX7_number 29 = .ok (.lstore 5, 2) := by decide +kernel
theorem dX7_number_31 : decode cX7_number 31 = .ok (.iinc 7 1, 3) := by decide +kernel
theorem dX7_number_34 : decode cX7_number 34 = .ok (.goto (-18), 3) := by decide +kernel
theorem dX7_number_37 : decode cX7_number 37 = .ok (.aload_n 0, 1) := by decide +kernel
theorem dX7_number_38 : decode cX7_number 38 = .ok (.lload 5, 2) := by decide +kernel
theorem dX7_number_40 : decode cX7_number 40 = .ok (.ldc2_w 280, 3) := by decide +kernel
theorem dX7_number_43 : decode cX7_number 43 = .ok (.lrem, 1) := by decide +kernel
theorem dX7_number_44 : decode cX7_number 44 = .ok (.l2i, 1) := by decide +kernel
theorem dX7_number_45 : decode cX7_number 45 = .ok (.bipush 48, 2) := by decide +kernel
theorem dX7_number_47 : decode cX7_number 47 = .ok (.iadd, 1) := by decide +kernel
theorem dX7_number_48 : decode cX7_number 48 = .ok (.invokevirtual 287, 3) := by decide +kernel
theorem dX7_number_51 : decode cX7_number 51 = .ok (.iinc 4 (-1), 3) := by decide +kernel
theorem dX7_number_54 : decode cX7_number 54 = .ok (.goto (-49), 3) := by decide +kernel
theorem dX7_number_57 : decode cX7_number 57 = .ok (.return_, 1) := by decide +kernel
theorem dX7_text_0 : decode cX7_text 0 = .ok (.aload_n 0, 1) := by decide +kernel
theorem dX7_text_1 : decode cX7_text 1 = .ok (.iload_n 1, 1) := by decide +kernel
theorem dX7_text_2 : decode cX7_text 2 = .ok (.invokevirtual 120, 3) := by decide +kernel
theorem dX7_text_5 : decode cX7_text 5 = .ok (.ifCond .ne 5, 3) := by decide +kernel
theorem dX7_text_8 : decode cX7_text 8 = .ok (.iconst 0, 1) := by decide +kernel
theorem dX7_text_9 : decode cX7_text 9 = .ok (.ireturn, 1) := by decide +kernel
theorem dX7_text_10 : decode cX7_text 10 = .ok (.aload_n 0, 1) := by decide +kernel
theorem dX7_text_11 : decode cX7_text 11 = .ok (.iload_n 2, 1) := by decide +kernel
theorem dX7_text_12 : decode cX7_text 12 = .ok (.ifCond .ge 7, 3) := by decide +kernel
theorem dX7_text_15 : decode cX7_text 15 = .ok (.iconst 2, 1) := by decide +kernel
theorem dX7_text_16 : decode cX7_text 16 = .ok (.goto 4, 3) := by decide +kernel
theorem dX7_text_19 : decode cX7_text 19 = .ok (.iconst 0, 1) := by decide +kernel
theorem dX7_text_20 : decode cX7_text 20 = .ok (.putfield 41, 3) := by decide +kernel
theorem dX7_text_23 : decode cX7_text 23 = .ok (.aload_n 0, 1) := by decide +kernel
theorem dX7_text_24 : decode cX7_text 24 = .ok (.getfield 41, 3) := by decide +kernel
theorem dX7_text_27 : decode cX7_text 27 = .ok (.ifCond .le 5, 3) := by decide +kernel
theorem dX7_text_30 : decode cX7_text 30 = .ok (.iconst 0, 1) := by decide +kernel
theorem dX7_text_31 : decode cX7_text 31 = .ok (.ireturn, 1) := by decide +kernel
theorem dX7_text_32 : decode cX7_text 32 = .ok (.aload_n 0, 1) := by decide +kernel
theorem dX7_text_33 : decode cX7_text 33 = .ok (.iconst 0, 1) := by decide +kernel
theorem dX7_text_34 : decode cX7_text 34 = .ok (.putfield 284, 3) := by decide +kernel
theorem dX7_text_37 : decode cX7_text 37 = .ok (.aload_n 0, 1) := by decide +kernel
theorem dX7_text_38 : decode cX7_text 38 = .ok (.aload_n 0, 1) := by decide +kernel
theorem dX7_text_39 : decode cX7_text 39 = .ok (.getfield 7, 3) := by decide +kernel
theorem dX7_text_42 : decode cX7_text 42 = .ok (.iload_n 1, 1) := by decide +kernel
theorem dX7_text_43 : decode cX7_text 43 = .ok (.laload, 1) := by decide +kernel
theorem dX7_text_44 : decode cX7_text 44 = .ok (.invokevirtual 106, 3) := by decide +kernel
theorem dX7_text_47 : decode cX7_text 47 = .ok (.aload_n 0, 1) := by decide +kernel
theorem dX7_text_48 : decode cX7_text 48 = .ok (.getfield 86, 3) := by decide +kernel
theorem dX7_text_51 : decode cX7_text 51 = .ok (.lconst 0, 1) := by decide +kernel
theorem dX7_text_52 : decode cX7_text 52 = .ok (.lcmp, 1) := by decide +kernel
theorem dX7_text_53 : decode cX7_text 53 = .ok (.ifCond .ge 9, 3) := by decide +kernel
theorem dX7_text_56 : decode cX7_text 56 = .ok (.aload_n 0, 1) := by decide +kernel
theorem dX7_text_57 : decode cX7_text 57 = .ok (.bipush 45, 2) := by decide +kernel
theorem dX7_text_59 : decode cX7_text 59 = .ok (.invokevirtual 287, 3) := by decide +kernel
theorem dX7_text_62 : decode cX7_text 62 = .ok (.aload_n 0, 1) := by decide +kernel
theorem dX7_text_63 : decode cX7_text 63 = .ok (.aload_n 0, 1) := by decide +kernel
theorem dX7_text_64 : decode cX7_text 64 = .ok (.getfield 86, 3) := by decide +kernel
theorem dX7_text_67 : decode cX7_text 67 = .ok (.lconst 0, 1) := by decide +kernel
theorem dX7_text_68 : decode cX7_text 68 = .ok (.lcmp, 1) := by decide +kernel
theorem dX7_text_69 : decode cX7_text 69 = .ok (.ifCond .ge 11, 3) := by decide +kernel
theorem dX7_text_72 : decode cX7_text 72 = .ok (.aload_n 0, 1) := by decide +kernel
theorem dX7_text_73 : decode cX7_text 73 = .ok (.getfield 86, 3) := by decide +kernel
theorem dX7_text_76 : decode cX7_text 76 = .ok (.lneg, 1) := by decide +kernel
theorem dX7_text_77 : decode cX7_text 77 = .ok (.goto 7, 3) := by decide +kernel
theorem dX7_text_80 : decode cX7_text 80 = .ok (.aload_n 0, 1) := by decide +kernel
theorem dX7_text_81 : decode cX7_text 81 = .ok (.getfield 86, 3) := by decide +kernel
theorem dX7_text_84 : decode cX7_text 84 = .ok (.iconst 4, 1) := by decide +kernel
theorem dX7_text_85 : decode cX7_text 85 = .ok (.invokevirtual 290, 3) := by decide +kernel
theorem dX7_text_88 : decode cX7_text 88 = .ok (.aload_n 0, 1) := by decide +kernel
theorem dX7_text_89 : decode cX7_text 89 = .ok (.bipush 45, 2) := by decide +kernel
