theorem dX7_get_182 : decode cX7_get 182 = .ok (.iload_n 2, 1) := by decide +kernel
theorem dX7_get_183 : decode cX7_get 183 = .ok (.iconst 2, 1) := by decide +kernel
theorem dX7_get_184 : decode cX7_get 184 = .ok (.if_icmp .ne 11, 3) := by decide +kernel
theorem dX7_get_187 : decode cX7_get 187 = .ok (.aload_n 0, 1) := by decide +kernel
theorem dX7_get_188 : decode cX7_get 188 = .ok (.getfield 80, 3) := by decide +kernel
theorem dX7_get_191 : decode cX7_get 191 = .ok (.i2l, 1) := by decide +kernel
theorem dX7_get_192 : decode cX7_get 192 = .ok (.goto 4, 3) := by decide +kernel
theorem dX7_get_195 : decode cX7_get 195 = .ok (.lconst 0, 1) := by decide +kernel
theorem dX7_get_196 : decode cX7_get 196 = .ok (.lreturn, 1) := by decide +kernel
theorem dX7_get_197 : decode cX7_get 197 = .ok (.iload_n 2, 1) := by decide +kernel
theorem dX7_get_198 : decode cX7_get 198 = .ok (.iconst 3, 1) := by decide +kernel
theorem dX7_get_199 : decode cX7_get 199 = .ok (.if_icmp .ne 19, 3) := by decide +kernel
theorem dX7_get_202 : decode cX7_get 202 = .ok (.lload_n 3, 1) := by decide +kernel
theorem dX7_get_203 : decode cX7_get 203 = .ok (.aload_n 0, 1) := by decide +kernel
theorem dX7_get_204 : decode cX7_get 204 = .ok (.getfield 86, 3) := by decide +kernel
theorem dX7_get_207 : decode cX7_get 207 = .ok (.iconst 1, 1) := by decide +kernel
theorem dX7_get_208 : decode cX7_get 208 = .ok (.iconst 1, 1) := by decide +kernel
theorem dX7_get_209 : decode cX7_get 209 = .ok (.invokestatic 96, 3) := by decide +kernel
theorem dX7_get_212 : decode cX7_get 212 = .ok (.lsub, 1) := by decide +kernel
theorem dX7_get_213 : decode cX7_get 213 = .ok (.lconst 1, 1) := by decide +kernel
theorem dX7_get_214 : decode cX7_get 214 = .ok (.ladd, 1) := by decide +kernel
theorem dX7_get_215 : decode cX7_get 215 = .ok (.goto 49, 3) := by decide +kernel
theorem dX7_get_218 : decode cX7_get 218 = .ok (.iload_n 2, 1) := by decide +kernel
theorem dX7_get_219 : decode cX7_get 219 = .ok (.bipush 12, 2) := by decide +kernel
theorem dX7_get_221 : decode cX7_get 221 = .ok (.if_icmp .ne 17, 3) := by decide +kernel
theorem dX7_get_224 : decode cX7_get 224 = .ok (.aload_n 0, 1) := by decide +kernel
theorem dX7_get_225 : decode cX7_get 225 = .ok (.getfield 83, 3) := by decide +kernel
theorem dX7_get_228 : decode cX7_get 228 = .ok (.iconst 1, 1) := by decide +kernel
theorem dX7_get_229 : decode cX7_get 229 = .ok (.isub, 1) := by decide +kernel
theorem dX7_get_230 : decode cX7_get 230 = .ok (.iconst 3, 1) := by decide +kernel
theorem dX7_get_231 : decode cX7_get 231 = .ok (.idiv, 1) := by decide +kernel
theorem dX7_get_232 : decode cX7_get 232 = .ok (.iconst 1, 1) := by decide +kernel
theorem dX7_get_233 : decode cX7_get 233 = .ok (.iadd, 1) := by decide +kernel
theorem dX7_get_234 : decode cX7_get 234 = .ok (.i2l, 1) := by decide +kernel
theorem dX7_get_235 : decode cX7_get 235 = .ok (.goto 29, 3) := by decide +kernel
theorem dX7_get_238 : decode cX7_get 238 = .ok (.iload_n 2, 1) := by decide +kernel
theorem dX7_get_239 : decode cX7_get 239 = .ok (.bipush 15, 2) := by decide +kernel
theorem dX7_get_241 : decode cX7_get 241 = .ok (.if_icmp .ne 22, 3) := by decide +kernel
theorem dX7_get_244 : decode cX7_get 244 = .ok (.ldc2_w 110, 3) := by decide +kernel
theorem dX7_get_247 : decode cX7_get 247 = .ok (.aload_n 0, 1) := by decide +kernel
theorem dX7_get_248 : decode cX7_get 248 = .ok (.getfield 86, 3) := by decide +kernel
theorem dX7_get_251 : decode cX7_get 251 = .ok (.lmul, 1) := by decide +kernel
theorem dX7_get_252 : decode cX7_get 252 = .ok (.aload_n 0, 1) := by decide +kernel
theorem dX7_get_253 : decode cX7_get 253 = .ok (.getfield 83, 3) := by decide +kernel
theorem dX7_get_256 : decode cX7_get 256 = .ok (.i2l, 1) := by decide +kernel
theorem dX7_get_257 : decode cX7_get 257 = .ok (.ladd, 1) := by decide +kernel
theorem dX7_get_258 : decode cX7_get 258 = .ok (.lconst 1, 1) := by decide +kernel
theorem dX7_get_259 : decode cX7_get 259 = .ok (.lsub, 1) := by decide +kernel
theorem dX7_get_260 : decode cX7_get 260 = .ok (.goto 4, 3) := by decide +kernel
theorem dX7_get_263 : decode cX7_get 263 = .ok (.lconst 0, 1) := by decide +kernel
theorem dX7_get_264 : decode cX7_get 264 = .ok (.lreturn, 1) := by decide +kernel
theorem dX7_timed_0 : decode cX7_timed 0 = .ok (.iload_n 2, 1) := by decide +kernel
theorem dX7_timed_1 : decode cX7_timed 1 = .ok (.bipush 9, 2) := by decide +kernel
theorem dX7_timed_3 : decode cX7_timed 3 = .ok (.if_icmp .ge 45, 3) := by decide +kernel
theorem dX7_timed_6 : decode cX7_timed 6 = .ok (.iload_n 2, 1) := by decide +kernel
theorem dX7_timed_7 : decode cX7_timed 7 = .ok (.bipush 6, 2) := by decide +kernel
theorem dX7_timed_9 : decode cX7_timed 9 = .ok (.if_icmp .ne 11, 3) := by decide +kernel
theorem dX7_timed_12 : decode cX7_timed 12 = .ok (.lload_n 0, 1) := by decide +kernel
theorem dX7_timed_13 : decode cX7_timed 13 = .ok (.ldc2_w 146, 3) := by decide +kernel
theorem dX7_timed_16 : decode cX7_timed 16 = .ok (.ldiv, 1) := by decide +kernel
theorem dX7_timed_17 : decode cX7_timed 17 = .ok (.goto 30, 3) := by decide +kernel
theorem dX7_timed_20 : decode cX7_timed 20 = .ok (.iload_n 2, 1) := by decide +kernel
theorem dX7_timed_21 : decode cX7_timed 21 = .ok (.bipush 7, 2) := by decide +kernel
theorem dX7_timed_23 : decode cX7_timed 23 = .ok (.if_icmp .ne 15, 3) := by decide +kernel
theorem dX7_timed_26 : decode cX7_timed 26 = .ok (.lload_n 0, 1) := by decide +kernel
theorem dX7_timed_27 : decode cX7_timed 27 = .ok (.ldc2_w 148, 3) := by decide +kernel
theorem dX7_timed_30 : decode cX7_timed 30 = .ok (.ldiv, 1) := by decide +kernel
theorem dX7_timed_31 : decode cX7_timed 31 = .ok (.ldc2_w 150, 3) := by decide +kernel
theorem dX7_timed_34 : decode cX7_timed 34 = .ok (.lrem, 1) := by decide +kernel
theorem dX7_timed_35 : decode cX7_timed 35 = .ok (.goto 12, 3) := by decide +kernel
theorem dX7_timed_38 : decode cX7_timed 38 = .ok (.lload_n 0, 1) := by decide +kernel
theorem dX7_timed_39 : decode cX7_timed 39 = .ok (.ldc2_w 134, 3) := by decide +kernel
theorem dX7_timed_42 : decode cX7_timed 42 = .ok (.ldiv, 1) := by decide +kernel
theorem dX7_timed_43 : decode cX7_timed 43 = .ok (.ldc2_w 150, 3) := by decide +kernel
theorem dX7_timed_46 : decode cX7_timed 46 = .ok (.lrem, 1) := by decide +kernel
theorem dX7_timed_47 : decode cX7_timed 47 = .ok (.lreturn, 1) := by decide +kernel
theorem dX7_timed_48 : decode cX7_timed 48 = .ok (.iload_n 2, 1) := by decide +kernel
theorem dX7_timed_49 : decode cX7_timed 49 = .ok (.bipush 9, 2) := by decide +kernel
theorem dX7_timed_51 : decode cX7_timed 51 = .ok (.if_icmp .ne 11, 3) := by decide +kernel
theorem dX7_timed_54 : decode cX7_timed 54 = .ok (.lload_n 0, 1) := by decide +kernel
theorem dX7_timed_55 : decode cX7_timed 55 = .ok (.ldc2_w 134, 3) := by decide +kernel
theorem dX7_timed_58 : decode cX7_timed 58 = .ok (.lrem, 1) := by decide +kernel
theorem dX7_timed_59 : decode cX7_timed 59 = .ok (.goto 18, 3) := by decide +kernel
theorem dX7_timed_62 : decode cX7_timed 62 = .ok (.iload_n 2, 1) := by decide +kernel
theorem dX7_timed_63 : decode cX7_timed 63 = .ok (.bipush 10, 2) := by decide +kernel
theorem dX7_timed_65 : decode cX7_timed 65 = .ok (.if_icmp .ne 11, 3) := by decide +kernel
theorem dX7_timed_68 : decode cX7_timed 68 = .ok (.lload_n 0, 1) := by decide +kernel
theorem dX7_timed_69 : decode cX7_timed 69 = .ok (.ldc2_w 134, 3) := by decide +kernel
theorem dX7_timed_72 : decode cX7_timed 72 = .ok (.ldiv, 1) := by decide +kernel
theorem dX7_timed_73 : decode cX7_timed 73 = .ok (.goto 4, 3) := by decide +kernel
theorem dX7_timed_76 : decode cX7_timed 76 = .ok (.lload_n 0, 1) := by decide +kernel
theorem dX7_timed_77 : decode cX7_timed 77 = .ok (.lreturn, 1) := by decide +kernel
theorem dX7_with_0 : decode cX7_with 0 = .ok (.aload_n 0, 1) := by decide +kernel
theorem dX7_with_1 : decode cX7_with 1 = .ok (.iload_n 1, 1) := by decide +kernel
theorem dX7_with_2 : decode cX7_with 2 = .ok (.invokevirtual 120, 3) := by decide +kernel
theorem dX7_with_5 : decode cX7_with 5 = .ok (.ifCond .ne 4, 3) := by decide +kernel
theorem dX7_with_8 : decode cX7_with 8 = .ok (.return_, 1) := by decide +kernel
theorem dX7_with_9 : decode cX7_with 9 = .ok (.iload_n 2, 1) := by decide +kernel
theorem dX7_with_10 : decode cX7_with 10 = .ok (.i2l, 1) := by decide +kernel
theorem dX7_with_11 : decode cX7_with 11 = .ok (.lconst 0, 1) := by decide +kernel
theorem dX7_with_12 : decode cX7_with 12 = .ok (.ldc2_w 110, 3) := by decide +kernel
theorem dX7_with_15 : decode cX7_with 15 = .ok (.invokestatic 102, 3) := by decide +kernel
theorem dX7_with_18 : decode cX7_with 18 = .ok (.ifCond .ne 15, 3) := by decide +kernel
theorem dX7_with_21 : decode cX7_with 21 = .ok (.iload_n 2, 1) := by decide +kernel
theorem dX7_with_22 : decode cX7_with 22 = .ok (.bipush 15, 2) := by decide +kernel
theorem dX7_with_24 : decode cX7_with 24 = .ok (.if_icmp .eq 9, 3) := by decide +kernel
theorem dX7_with_27 : decode cX7_with 27 = .ok (.aload_n 0, 1) := by decide +kernel
theorem dX7_with_28 : decode cX7_with 28 = .ok (.iconst 2, 1) := by decide +kernel
theorem dX7_with_29 : decode cX7_with 29 = .ok (.putfield 41, 3) := by decide +kernel
theorem dX7_with_32 : decode cX7_with 32 = .ok (.return_, 1) := by decide +kernel
theorem dX7_with_33 : decode cX7_with 33 = .ok (.aload_n 0, 1) := by decide +kernel
theorem dX7_with_34 : decode cX7_with 34 = .ok (.getfield 7, 3) := by decide +kernel
theorem dX7_with_37 : decode cX7_with 37 = .ok (.iload_n 1, 1) := by decide +kernel
theorem dX7_with_38 : decode cX7_with 38 = .ok (.laload, 1) := by decide +kernel
theorem dX7_with_39 : decode cX7_with 39 = .ok (.lstore 5, 2) := by decide +kernel
theorem dX7_with_41 : decode cX7_with 41 = .ok (.aload_n 0, 1) := by decide +kernel
theorem dX7_with_42 : decode cX7_with 42 = .ok (.lload 5, 2) := by decide +kernel
theorem dX7_with_44 : decode cX7_with 44 = .ok (.invokevirtual 106, 3) := by decide +kernel
theorem dX7_with_47 : decode cX7_with 47 = .ok (.iload_n 2, 1) := by decide +kernel
theorem dX7_with_48 : decode cX7_with 48 = .ok (.iconst 5, 1) := by decide +kernel
theorem dX7_with_49 : decode cX7_with 49 = .ok (.if_icmp .le 17, 3) := by decide +kernel
theorem dX7_with_52 : decode cX7_with 52 = .ok (.iload_n 2, 1) := by decide +kernel
theorem dX7_with_53 : decode cX7_with 53 = .ok (.bipush 12, 2) := by decide +kernel
theorem dX7_with_55 : decode cX7_with 55 = .ok (.if_icmp .ge 11, 3) := by decide +kernel
theorem dX7_with_58 : decode cX7_with 58 = .ok (.aload_n 0, 1) := by decide +kernel
theorem dX7_with_59 : decode cX7_with 59 = .ok (.iload_n 1, 1) := by decide +kernel
theorem dX7_with_60 : decode cX7_with 60 = .ok (.iload_n 2, 1) := by decide +kernel
theorem dX7_with_61 : decode cX7_with 61 = .ok (.lload_n 3, 1) := by decide +kernel
theorem dX7_with_62 : decode cX7_with 62 = .ok (.invokevirtual 152, 3) := by decide +kernel
theorem dX7_with_65 : decode cX7_with 65 = .ok (.return_, 1) := by decide +kernel
theorem dX7_with_66 : decode cX7_with 66 = .ok (.iconst 1, 1) := by decide +kernel
theorem dX7_with_67 : decode cX7_with 67 = .ok (.istore 7, 2) := by decide +kernel
theorem dX7_with_69 : decode cX7_with 69 = .ok (.lload 5, 2) := by decide +kernel
theorem dX7_with_71 : decode cX7_with 71 = .ok (.lstore 8, 2) := by decide +kernel
theorem dX7_with_73 : decode cX7_with 73 = .ok (.iload_n 2, 1) := by decide +kernel
theorem dX7_with_74 : decode cX7_with 74 = .ok (.ifCond .eq 9, 3) := by decide +kernel
theorem dX7_with_77 : decode cX7_with 77 = .ok (.iload_n 2, 1) := by decide +kernel
theorem dX7_with_78 : decode cX7_with 78 = .ok (.bipush 15, 2) := by decide +kernel
theorem dX7_with_80 : decode cX7_with 80 = .ok (.if_icmp .ne 77, 3) := by decide +kernel
theorem dX7_with_83 : decode cX7_with 83 = .ok (.iload_n 2, 1) := by decide +kernel
theorem dX7_with_84 : decode cX7_with 84 = .ok (.bipush 15, 2) := by decide +kernel
theorem dX7_with_86 : decode cX7_with 86 = .ok (.if_icmp .ne 7, 3) := by decide +kernel
theorem dX7_with_89 : decode cX7_with 89 = .ok (.lload_n 3, 1) := by decide +kernel
theorem dX7_with_90 : decode cX7_with 90 = .ok (.goto 35, 3) := by decide +kernel
theorem dX7_with_93 : decode cX7_with 93 = .ok (.lload_n 3, 1) := by decide +kernel
theorem dX7_with_94 : decode cX7_with 94 = .ok (.ldc2_w 94, 3) := by decide +kernel
theorem dX7_with_97 : decode cX7_with 97 = .ok (.ldc2_w 100, 3) := by decide +kernel
theorem dX7_with_100 : decode cX7_with 100 = .ok (.invokestatic 102, 3) := by decide +kernel
theorem dX7_with_103 : decode cX7_with 103 = .ok (.ifCond .eq 19, 3) := by decide +kernel
theorem dX7_with_106 : decode cX7_with 106 = .ok (.ldc2_w 110, 3) := by decide +kernel
theorem dX7_with_109 : decode cX7_with 109 = .ok (.lload_n 3, 1) := by decide +kernel
theorem dX7_with_110 : decode cX7_with 110 = .ok (.lmul, 1) := by decide +kernel
theorem dX7_with_111 : decode cX7_with 111 = .ok (.aload_n 0, 1) := by decide +kernel
theorem dX7_with_112 : decode cX7_with 112 = .ok (.getfield 83, 3) := by decide +kernel
theorem dX7_with_115 : decode cX7_with 115 = .ok (.i2l, 1) := by decide +kernel
theorem dX7_with_116 : decode cX7_with 116 = .ok (.ladd, 1) := by decide +kernel
theorem dX7_with_117 : decode cX7_with 117 = .ok (.lconst 1, 1) := by decide +kernel
theorem dX7_with_118 : decode cX7_with 118 = .ok (.lsub, 1) := by decide +kernel
theorem dX7_with_119 : decode cX7_with 119 = .ok (.goto 6, 3) := by decide +kernel
theorem dX7_with_122 : decode cX7_with 122 = .ok (.ldc2_w 156, 3) := by decide +kernel
theorem dX7_with_125 : decode cX7_with 125 = .ok (.lstore 10, 2) := by decide +kernel
theorem dX7_with_127 : decode cX7_with 127 = .ok (.lload 10, 2) := by decide +kernel
theorem dX7_with_129 : decode cX7_with 129 = .ok (.invokestatic 158, 3) := by decide +kernel
theorem dX7_with_132 : decode cX7_with 132 = .ok (.istore 7, 2) := by decide +kernel
theorem dX7_with_134 : decode cX7_with 134 = .ok (.iload 7, 2) := by decide +kernel
theorem dX7_with_136 : decode cX7_with 136 = .ok (.ifCond .eq 14, 3) := by decide +kernel
theorem dX7_with_139 : decode cX7_with 139 = .ok (.aload_n 0, 1) := by decide +kernel
theorem dX7_with_140 : decode cX7_with 140 = .ok (.lload 5, 2) := by decide +kernel
theorem dX7_with_142 : decode cX7_with 142 = .ok (.lload 10, 2) := by decide +kernel
theorem dX7_with_144 : decode cX7_with 144 = .ok (.invokevirtual 161, 3) := by decide +kernel
theorem dX7_with_147 : decode cX7_with 147 = .ok (.goto 5, 3) := by decide +kernel
theorem dX7_with_150 : decode cX7_with 150 = .ok (.lload 5, 2) := by decide +kernel
theorem dX7_with_152 : decode cX7_with 152 = .ok (.lstore 8, 2) := by decide +kernel
theorem dX7_with_154 : decode cX7_with 154 = .ok (.goto 253, 3) := by decide +kernel
theorem dX7_with_157 : decode cX7_with 157 = .ok (.iload_n 2, 1) := by decide +kernel
theorem dX7_with_158 : decode cX7_with 158 = .ok (.iconst 1, 1) := by decide +kernel
theorem dX7_with_159 : decode cX7_with 159 = .ok (.if_icmp .eq 9, 3) := by decide +kernel
theorem dX7_with_162 : decode cX7_with 162 = .ok (.iload_n 2, 1) := by decide +kernel
theorem dX7_with_163 : decode cX7_with 163 = .ok (.bipush 12, 2) := by decide +kernel
theorem dX7_with_165 : decode cX7_with 165 = .ok (.if_icmp .ne 88, 3) := by decide +kernel
theorem dX7_with_168 : decode cX7_with 168 = .ok (.lload_n 3, 1) := by decide +kernel
theorem dX7_with_169 : decode cX7_with 169 = .ok (.lconst 1, 1) := by decide +kernel
theorem dX7_with_170 : decode cX7_with 170 = .ok (.iload_n 2, 1) := by decide +kernel
theorem dX7_with_171 : decode cX7_with 171 = .ok (.iconst 1, 1) := by decide +kernel
theorem dX7_with_172 : decode cX7_with 172 = .ok (.if_icmp .ne 9, 3) := by decide +kernel
theorem dX7_with_175 : decode cX7_with 175 = .ok (.ldc2_w 110, 3) := by decide +kernel
theorem dX7_with_178 : decode cX7_with 178 = .ok (.goto 6, 3) := by decide +kernel
theorem dX7_with_181 : decode cX7_with 181 = .ok (.ldc2_w 45, 3) := by decide +kernel
theorem dX7_with_184 : decode cX7_with 184 = .ok (.invokestatic 102, 3) := by decide +kernel
theorem dX7_with_187 : decode cX7_with 187 = .ok (.istore 7, 2) := by decide +kernel
theorem dX7_with_189 : decode cX7_with 189 = .ok (.iload_n 2, 1) := by decide +kernel
theorem dX7_with_190 : decode cX7_with 190 = .ok (.iconst 1, 1) := by decide +kernel
theorem dX7_with_191 : decode cX7_with 191 = .ok (.if_icmp .ne 7, 3) := by decide +kernel
theorem dX7_with_194 : decode cX7_with 194 = .ok (.lload_n 3, 1) := by decide +kernel
theorem dX7_with_195 : decode cX7_with 195 = .ok (.goto 22, 3) := by decide +kernel
theorem dX7_with_198 : decode cX7_with 198 = .ok (.ldc2_w 90, 3) := by decide +kernel
theorem dX7_with_201 : decode cX7_with 201 = .ok (.lload_n 3, 1) := by decide +kernel
theorem dX7_with_202 : decode cX7_with 202 = .ok (.lmul, 1) := by decide +kernel
theorem dX7_with_203 : decode cX7_with 203 = .ok (.ldc2_w 64, 3) := by decide +kernel
theorem dX7_with_206 : decode cX7_with 206 = .ok (.lsub, 1) := by decide +kernel
theorem dX7_with_207 : decode cX7_with 207 = .ok (.aload_n 0, 1) := by decide +kernel
theorem dX7_with_208 : decode cX7_with 208 = .ok (.getfield 83, 3) := by decide +kernel
theorem dX7_with_211 : decode cX7_with 211 = .ok (.iconst 1, 1) := by decide +kernel
theorem dX7_with_212 : decode cX7_with 212 = .ok (.isub, 1) := by decide +kernel
theorem dX7_with_213 : decode cX7_with 213 = .ok (.iconst 3, 1) := by decide +kernel
theorem dX7_with_214 : decode cX7_with 214 = .ok (.irem, 1) := by decide +kernel
theorem dX7_with_215 : decode cX7_with 215 = .ok (.i2l, 1) := by decide +kernel
theorem dX7_with_216 : decode cX7_with 216 = .ok (.ladd, 1) := by decide +kernel
theorem dX7_with_217 : decode cX7_with 217 = .ok (.lstore 10, 2) := by decide +kernel
theorem dX7_with_219 : decode cX7_with 219 = .ok (.iload 7, 2) := by decide +kernel
theorem dX7_with_221 : decode cX7_with 221 = .ok (.ifCond .eq 25, 3) := by decide +kernel
theorem dX7_with_224 : decode cX7_with 224 = .ok (.aload_n 0, 1) := by decide +kernel
theorem dX7_with_225 : decode cX7_with 225 = .ok (.lload 5, 2) := by decide +kernel
theorem dX7_with_227 : decode cX7_with 227 = .ok (.ldc2_w 110, 3) := by decide +kernel
theorem dX7_with_230 : decode cX7_with 230 = .ok (.aload_n 0, 1) := by decide +kernel
theorem dX7_with_231 : decode cX7_with 231 = .ok (.getfield 86, 3) := by decide +kernel
theorem dX7_with_234 : decode cX7_with 234 = .ok (.lmul, 1) := by decide +kernel
theorem dX7_with_235 : decode cX7_with 235 = .ok (.lload 10, 2) := by decide +kernel
theorem dX7_with_237 : decode cX7_with 237 = .ok (.ladd, 1) := by decide +kernel
theorem dX7_with_238 : decode cX7_with 238 = .ok (.lconst 1, 1) := by decide +kernel
theorem dX7_with_239 : decode cX7_with 239 = .ok (.lsub, 1) := by decide +kernel
theorem dX7_with_240 : decode cX7_with 240 = .ok (.invokevirtual 161, 3) := by decide +kernel
theorem dX7_with_243 : decode cX7_with 243 = .ok (.goto 5, 3) := by decide +kernel
theorem dX7_with_246 : decode cX7_with 246 = .ok (.lload 5, 2) := by decide +kernel
theorem dX7_with_248 : decode cX7_with 248 = .ok (.lstore 8, 2) := by decide +kernel
theorem dX7_with_250 : decode cX7_with 250 = .ok (.goto 157, 3) := by decide +kernel
theorem dX7_with_253 : decode cX7_with 253 = .ok (.iload_n 2, 1) := by decide +kernel
theorem dX7_with_254 : decode cX7_with 254 = .ok (.iconst 2, 1) := by decide +kernel
theorem dX7_with_255 : decode cX7_with 255 = .ok (.if_icmp .eq 8, 3) := by decide +kernel
theorem dX7_with_258 : decode cX7_with 258 = .ok (.iload_n 2, 1) := by decide +kernel
theorem dX7_with_259 : decode cX7_with 259 = .ok (.iconst 3, 1) := by decide +kernel
theorem dX7_with_260 : decode cX7_with 260 = .ok (.if_icmp .ne 91, 3) := by decide +kernel
theorem dX7_with_263 : decode cX7_with 263 = .ok (.iload_n 2, 1) := by decide +kernel
theorem dX7_with_264 : decode cX7_with 264 = .ok (.iconst 2, 1) := by decide +kernel
theorem dX7_with_265 : decode cX7_with 265 = .ok (.if_icmp .ne 18, 3) := by decide +kernel
theorem dX7_with_268 : decode cX7_with 268 = .ok (.aload_n 0, 1) := by decide +kernel
theorem dX7_with_269 : decode cX7_with 269 = .ok (.getfield 86, 3) := by decide +kernel
theorem dX7_with_272 : decode cX7_with 272 = .ok (.aload_n 0, 1) := by decide +kernel
theorem dX7_with_273 : decode cX7_with 273 = .ok (.getfield 83, 3) := by decide +kernel
theorem dX7_with_276 : decode cX7_with 276 = .ok (.invokestatic 112, 3) := by decide +kernel
theorem dX7_with_279 : decode cX7_with 279 = .ok (.i2l, 1) := by decide +kernel
theorem dX7_with_280 : decode cX7_with 280 = .ok (.goto 22, 3) := by decide +kernel
theorem dX7_with_283 : decode cX7_with 283 = .ok (.aload_n 0, 1) := by decide +kernel
theorem dX7_with_284 : decode cX7_with 284 = .ok (.getfield 86, 3) := by decide +kernel
theorem dX7_with_287 : decode cX7_with 287 = .ok (.invokestatic 55, 3) := by decide +kernel
theorem dX7_with_290 : decode cX7_with 290 = .ok (.ifCond .eq 9, 3) := by decide +kernel
theorem dX7_with_293 : decode cX7_with 293 = .ok (.ldc2_w 164, 3) := by decide +kernel
theorem dX7_with_296 : decode cX7_with 296 = .ok (.goto 6, 3) := by decide +kernel
theorem dX7_with_299 : decode cX7_with 299 = .ok (.ldc2_w 70, 3) := by decide +kernel
theorem dX7_with_302 : decode cX7_with 302 = .ok (.lstore 10, 2) := by decide +kernel
theorem dX7_with_304 : decode cX7_with 304 = .ok (.lload_n 3, 1) := by decide +kernel
theorem dX7_with_305 : decode cX7_with 305 = .ok (.lconst 1, 1) := by decide +kernel
theorem dX7_with_306 : decode cX7_with 306 = .ok (.lload 10, 2) := by decide +kernel
theorem dX7_with_308 : decode cX7_with 308 = .ok (.invokestatic 102, 3) := by decide +kernel
theorem dX7_with_311 : decode cX7_with 311 = .ok (.istore 7, 2) := by decide +kernel
theorem dX7_with_313 : decode cX7_with 313 = .ok (.iload_n 2, 1) := by decide +kernel
theorem dX7_with_314 : decode cX7_with 314 = .ok (.iconst 2, 1) := by decide +kernel
theorem dX7_with_315 : decode cX7_with 315 = .ok (.if_icmp .ne 18, 3) := by decide +kernel
theorem dX7_with_318 : decode cX7_with 318 = .ok (.aload_n 0, 1) := by decide +kernel
theorem dX7_with_319 : decode cX7_with 319 = .ok (.getfield 86, 3) := by decide +kernel
theorem dX7_with_322 : decode cX7_with 322 = .ok (.aload_n 0, 1) := by decide +kernel
theorem dX7_with_323 : decode cX7_with 323 = .ok (.getfield 83, 3) := by decide +kernel
theorem dX7_with_326 : decode cX7_with 326 = .ok (.iconst 1, 1) := by decide +kernel
theorem dX7_with_327 : decode cX7_with 327 = .ok (.invokestatic 96, 3) := by decide +kernel
theorem dX7_with_330 : decode cX7_with 330 = .ok (.goto 12, 3) := by decide +kernel
theorem dX7_with_333 : decode cX7_with 333 = .ok (.aload_n 0, 1) := by decide +kernel
theorem dX7_with_334 : decode cX7_with 334 = .ok (.getfield 86, 3) := by decide +kernel
theorem dX7_with_337 : decode cX7_with 337 = .ok (.iconst 1, 1) := by decide +kernel
theorem dX7_with_338 : decode cX7_with 338 = .ok (.iconst 1, 1) := by decide +kernel
theorem dX7_with_339 : decode cX7_with 339 = .ok (.invokestatic 96, 3) := by decide +kernel
theorem dX7_with_342 : decode cX7_with 342 = .ok (.lload_n 3, 1) := by decide +kernel
theorem dX7_with_343 : decode cX7_with 343 = .ok (.ladd, 1) := by decide +kernel
theorem dX7_with_344 : decode cX7_with 344 = .ok (.lconst 1, 1) := by decide +kernel
theorem dX7_with_345 : decode cX7_with 345 = .ok (.lsub, 1) := by decide +kernel
theorem dX7_with_346 : decode cX7_with 346 = .ok (.lstore 8, 2) := by decide +kernel
theorem dX7_with_348 : decode cX7_with 348 = .ok (.goto 59, 3) := by decide +kernel
theorem dX7_with_351 : decode cX7_with 351 = .ok (.iload_n 2, 1) := by decide +kernel
theorem dX7_with_352 : decode cX7_with 352 = .ok (.iconst 4, 1) := by decide +kernel
theorem dX7_with_353 : decode cX7_with 353 = .ok (.if_icmp .ne 15, 3) := by decide +kernel
theorem dX7_with_356 : decode cX7_with 356 = .ok (.lload_n 3, 1) := by decide +kernel
theorem dX7_with_357 : decode cX7_with 357 = .ok (.invokestatic 166, 3) := by decide +kernel
theorem dX7_with_360 : decode cX7_with 360 = .ok (.istore 7, 2) := by decide +kernel
theorem dX7_with_362 : decode cX7_with 362 = .ok (.lload_n 3, 1) := by decide +kernel
theorem dX7_with_363 : decode cX7_with 363 = .ok (.lstore 8, 2) := by decide +kernel
theorem dX7_with_365 : decode cX7_with 365 = .ok (.goto 42, 3) := by decide +kernel
theorem dX7_with_368 : decode cX7_with 368 = .ok (.lload 5, 2) := by decide +kernel
theorem dX7_with_370 : decode cX7_with 370 = .ok (.lload_n 3, 1) := by decide +kernel
theorem dX7_with_371 : decode cX7_with 371 = .ok (.ladd, 1) := by decide +kernel
theorem dX7_with_372 : decode cX7_with 372 = .ok (.lload 5, 2) := by decide +kernel
theorem dX7_with_374 : decode cX7_with 374 = .ok (.invokestatic 138, 3) := by decide +kernel
theorem dX7_with_377 : decode cX7_with 377 = .ok (.i2l, 1) := by decide +kernel
theorem dX7_with_378 : decode cX7_with 378 = .ok (.lsub, 1) := by decide +kernel
theorem dX7_with_379 : decode cX7_with 379 = .ok (.lstore 8, 2) := by decide +kernel
theorem dX7_with_381 : decode cX7_with 381 = .ok (.lload_n 3, 1) := by decide +kernel
theorem dX7_with_382 : decode cX7_with 382 = .ok (.lconst 1, 1) := by decide +kernel
theorem dX7_with_383 : decode cX7_with 383 = .ok (.ldc2_w 92, 3) := by decide +kernel
theorem dX7_with_386 : decode cX7_with 386 = .ok (.invokestatic 102, 3) := by decide +kernel
theorem dX7_with_389 : decode cX7_with 389 = .ok (.ifCond .eq 15, 3) := by decide +kernel
theorem dX7_with_392 : decode cX7_with 392 = .ok (.lload 8, 2) := by decide +kernel
theorem dX7_with_394 : decode cX7_with 394 = .ok (.invokestatic 166, 3) := by decide +kernel
