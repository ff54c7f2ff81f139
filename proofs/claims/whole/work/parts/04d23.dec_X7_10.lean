theorem dX7_text_91 : decode cX7_text 91 = .ok (.invokevirtual 287, 3) := by decide +kernel
theorem dX7_text_94 : decode cX7_text 94 = .ok (.aload_n 0, 1) := by decide +kernel
theorem dX7_text_95 : decode cX7_text 95 = .ok (.aload_n 0, 1) := by decide +kernel
theorem dX7_text_96 : decode cX7_text 96 = .ok (.getfield 83, 3) := by decide +kernel
theorem dX7_text_99 : decode cX7_text 99 = .ok (.i2l, 1) := by decide +kernel
theorem dX7_text_100 : decode cX7_text 100 = .ok (.iconst 2, 1) := by decide +kernel
theorem dX7_text_101 : decode cX7_text 101 = .ok (.invokevirtual 290, 3) := by decide +kernel
theorem dX7_text_104 : decode cX7_text 104 = .ok (.aload_n 0, 1) := by decide +kernel
theorem dX7_text_105 : decode cX7_text 105 = .ok (.bipush 45, 2) := by decide +kernel
theorem dX7_text_107 : decode cX7_text 107 = .ok (.invokevirtual 287, 3) := by decide +kernel
theorem dX7_text_110 : decode cX7_text 110 = .ok (.aload_n 0, 1) := by decide +kernel
theorem dX7_text_111 : decode cX7_text 111 = .ok (.aload_n 0, 1) := by decide +kernel
theorem dX7_text_112 : decode cX7_text 112 = .ok (.getfield 80, 3) := by decide +kernel
theorem dX7_text_115 : decode cX7_text 115 = .ok (.i2l, 1) := by decide +kernel
theorem dX7_text_116 : decode cX7_text 116 = .ok (.iconst 2, 1) := by decide +kernel
theorem dX7_text_117 : decode cX7_text 117 = .ok (.invokevirtual 290, 3) := by decide +kernel
theorem dX7_text_120 : decode cX7_text 120 = .ok (.aload_n 0, 1) := by decide +kernel
theorem dX7_text_121 : decode cX7_text 121 = .ok (.bipush 84, 2) := by decide +kernel
theorem dX7_text_123 : decode cX7_text 123 = .ok (.invokevirtual 287, 3) := by decide +kernel
theorem dX7_text_126 : decode cX7_text 126 = .ok (.aload_n 0, 1) := by decide +kernel
theorem dX7_text_127 : decode cX7_text 127 = .ok (.getfield 13, 3) := by decide +kernel
theorem dX7_text_130 : decode cX7_text 130 = .ok (.iload_n 1, 1) := by decide +kernel
theorem dX7_text_131 : decode cX7_text 131 = .ok (.laload, 1) := by decide +kernel
theorem dX7_text_132 : decode cX7_text 132 = .ok (.lstore_n 3, 1) := by decide +kernel
theorem dX7_text_133 : decode cX7_text 133 = .ok (.aload_n 0, 1) := by decide +kernel
theorem dX7_text_134 : decode cX7_text 134 = .ok (.lload_n 3, 1) := by decide +kernel
theorem dX7_text_135 : decode cX7_text 135 = .ok (.bipush 6, 2) := by decide +kernel
theorem dX7_text_137 : decode cX7_text 137 = .ok (.invokestatic 142, 3) := by decide +kernel
theorem dX7_text_140 : decode cX7_text 140 = .ok (.iconst 2, 1) := by decide +kernel
theorem dX7_text_141 : decode cX7_text 141 = .ok (.invokevirtual 290, 3) := by decide +kernel
theorem dX7_text_144 : decode cX7_text 144 = .ok (.aload_n 0, 1) := by decide +kernel
theorem dX7_text_145 : decode cX7_text 145 = .ok (.bipush 58, 2) := by decide +kernel
theorem dX7_text_147 : decode cX7_text 147 = .ok (.invokevirtual 287, 3) := by decide +kernel
theorem dX7_text_150 : decode cX7_text 150 = .ok (.aload_n 0, 1) := by decide +kernel
theorem dX7_text_151 : decode cX7_text 151 = .ok (.lload_n 3, 1) := by decide +kernel
theorem dX7_text_152 : decode cX7_text 152 = .ok (.bipush 7, 2) := by decide +kernel
theorem dX7_text_154 : decode cX7_text 154 = .ok (.invokestatic 142, 3) := by decide +kernel
theorem dX7_text_157 : decode cX7_text 157 = .ok (.iconst 2, 1) := by decide +kernel
theorem dX7_text_158 : decode cX7_text 158 = .ok (.invokevirtual 290, 3) := by decide +kernel
theorem dX7_text_161 : decode cX7_text 161 = .ok (.lload_n 3, 1) := by decide +kernel
theorem dX7_text_162 : decode cX7_text 162 = .ok (.ldc2_w 134, 3) := by decide +kernel
theorem dX7_text_165 : decode cX7_text 165 = .ok (.lrem, 1) := by decide +kernel
theorem dX7_text_166 : decode cX7_text 166 = .ok (.lstore 5, 2) := by decide +kernel
theorem dX7_text_168 : decode cX7_text 168 = .ok (.lload_n 3, 1) := by decide +kernel
theorem dX7_text_169 : decode cX7_text 169 = .ok (.bipush 8, 2) := by decide +kernel
theorem dX7_text_171 : decode cX7_text 171 = .ok (.invokestatic 142, 3) := by decide +kernel
theorem dX7_text_174 : decode cX7_text 174 = .ok (.lconst 0, 1) := by decide +kernel
theorem dX7_text_175 : decode cX7_text 175 = .ok (.lcmp, 1) := by decide +kernel
theorem dX7_text_176 : decode cX7_text 176 = .ok (.ifCond .gt 10, 3) := by decide +kernel
theorem dX7_text_179 : decode cX7_text 179 = .ok (.lload 5, 2) := by decide +kernel
theorem dX7_text_181 : decode cX7_text 181 = .ok (.lconst 0, 1) := by decide +kernel
theorem dX7_text_182 : decode cX7_text 182 = .ok (.lcmp, 1) := by decide +kernel
theorem dX7_text_183 : decode cX7_text 183 = .ok (.ifCond .le 20, 3) := by decide +kernel
theorem dX7_text_186 : decode cX7_text 186 = .ok (.aload_n 0, 1) := by decide +kernel
theorem dX7_text_187 : decode cX7_text 187 = .ok (.bipush 58, 2) := by decide +kernel
theorem dX7_text_189 : decode cX7_text 189 = .ok (.invokevirtual 287, 3) := by decide +kernel
theorem dX7_text_192 : decode cX7_text 192 = .ok (.aload_n 0, 1) := by decide +kernel
theorem dX7_text_193 : decode cX7_text 193 = .ok (.lload_n 3, 1) := by decide +kernel
theorem dX7_text_194 : decode cX7_text 194 = .ok (.bipush 8, 2) := by decide +kernel
theorem dX7_text_196 : decode cX7_text 196 = .ok (.invokestatic 142, 3) := by decide +kernel
theorem dX7_text_199 : decode cX7_text 199 = .ok (.iconst 2, 1) := by decide +kernel
theorem dX7_text_200 : decode cX7_text 200 = .ok (.invokevirtual 290, 3) := by decide +kernel
theorem dX7_text_203 : decode cX7_text 203 = .ok (.lload 5, 2) := by decide +kernel
theorem dX7_text_205 : decode cX7_text 205 = .ok (.lconst 0, 1) := by decide +kernel
theorem dX7_text_206 : decode cX7_text 206 = .ok (.lcmp, 1) := by decide +kernel
theorem dX7_text_207 : decode cX7_text 207 = .ok (.ifCond .le 83, 3) := by decide +kernel
theorem dX7_text_210 : decode cX7_text 210 = .ok (.aload_n 0, 1) := by decide +kernel
theorem dX7_text_211 : decode cX7_text 211 = .ok (.bipush 46, 2) := by decide +kernel
theorem dX7_text_213 : decode cX7_text 213 = .ok (.invokevirtual 287, 3) := by decide +kernel
theorem dX7_text_216 : decode cX7_text 216 = .ok (.lload 5, 2) := by decide +kernel
theorem dX7_text_218 : decode cX7_text 218 = .ok (.ldc2_w 156, 3) := by decide +kernel
theorem dX7_text_221 : decode cX7_text 221 = .ok (.lrem, 1) := by decide +kernel
theorem dX7_text_222 : decode cX7_text 222 = .ok (.lconst 0, 1) := by decide +kernel
theorem dX7_text_223 : decode cX7_text 223 = .ok (.lcmp, 1) := by decide +kernel
theorem dX7_text_224 : decode cX7_text 224 = .ok (.ifCond .ne 7, 3) := by decide +kernel
theorem dX7_text_227 : decode cX7_text 227 = .ok (.iconst 3, 1) := by decide +kernel
theorem dX7_text_228 : decode cX7_text 228 = .ok (.goto 21, 3) := by decide +kernel
theorem dX7_text_231 : decode cX7_text 231 = .ok (.lload 5, 2) := by decide +kernel
theorem dX7_text_233 : decode cX7_text 233 = .ok (.ldc2_w 175, 3) := by decide +kernel
theorem dX7_text_236 : decode cX7_text 236 = .ok (.lrem, 1) := by decide +kernel
theorem dX7_text_237 : decode cX7_text 237 = .ok (.lconst 0, 1) := by decide +kernel
theorem dX7_text_238 : decode cX7_text 238 = .ok (.lcmp, 1) := by decide +kernel
theorem dX7_text_239 : decode cX7_text 239 = .ok (.ifCond .ne 8, 3) := by decide +kernel
theorem dX7_text_242 : decode cX7_text 242 = .ok (.bipush 6, 2) := by decide +kernel
theorem dX7_text_244 : decode cX7_text 244 = .ok (.goto 5, 3) := by decide +kernel
theorem dX7_text_247 : decode cX7_text 247 = .ok (.bipush 9, 2) := by decide +kernel
theorem dX7_text_249 : decode cX7_text 249 = .ok (.istore 7, 2) := by decide +kernel
theorem dX7_text_251 : decode cX7_text 251 = .ok (.aload_n 0, 1) := by decide +kernel
theorem dX7_text_252 : decode cX7_text 252 = .ok (.iload 7, 2) := by decide +kernel
theorem dX7_text_254 : decode cX7_text 254 = .ok (.iconst 3, 1) := by decide +kernel
theorem dX7_text_255 : decode cX7_text 255 = .ok (.if_icmp .ne 12, 3) := by decide +kernel
theorem dX7_text_258 : decode cX7_text 258 = .ok (.lload 5, 2) := by decide +kernel
theorem dX7_text_260 : decode cX7_text 260 = .ok (.ldc2_w 156, 3) := by decide +kernel
theorem dX7_text_263 : decode cX7_text 263 = .ok (.ldiv, 1) := by decide +kernel
theorem dX7_text_264 : decode cX7_text 264 = .ok (.goto 21, 3) := by decide +kernel
theorem dX7_text_267 : decode cX7_text 267 = .ok (.iload 7, 2) := by decide +kernel
theorem dX7_text_269 : decode cX7_text 269 = .ok (.bipush 6, 2) := by decide +kernel
theorem dX7_text_271 : decode cX7_text 271 = .ok (.if_icmp .ne 12, 3) := by decide +kernel
theorem dX7_text_274 : decode cX7_text 274 = .ok (.lload 5, 2) := by decide +kernel
theorem dX7_text_276 : decode cX7_text 276 = .ok (.ldc2_w 175, 3) := by decide +kernel
theorem dX7_text_279 : decode cX7_text 279 = .ok (.ldiv, 1) := by decide +kernel
theorem dX7_text_280 : decode cX7_text 280 = .ok (.goto 5, 3) := by decide +kernel
theorem dX7_text_283 : decode cX7_text 283 = .ok (.lload 5, 2) := by decide +kernel
theorem dX7_text_285 : decode cX7_text 285 = .ok (.iload 7, 2) := by decide +kernel
theorem dX7_text_287 : decode cX7_text 287 = .ok (.invokevirtual 290, 3) := by decide +kernel
theorem dX7_text_290 : decode cX7_text 290 = .ok (.iload_n 2, 1) := by decide +kernel
theorem dX7_text_291 : decode cX7_text 291 = .ok (.aload_n 0, 1) := by decide +kernel
theorem dX7_text_292 : decode cX7_text 292 = .ok (.getfield 284, 3) := by decide +kernel
theorem dX7_text_295 : decode cX7_text 295 = .ok (.if_icmp .ge 12, 3) := by decide +kernel
theorem dX7_text_298 : decode cX7_text 298 = .ok (.aload_n 0, 1) := by decide +kernel
theorem dX7_text_299 : decode cX7_text 299 = .ok (.getfield 38, 3) := by decide +kernel
theorem dX7_text_302 : decode cX7_text 302 = .ok (.iload_n 2, 1) := by decide +kernel
theorem dX7_text_303 : decode cX7_text 303 = .ok (.iaload, 1) := by decide +kernel
theorem dX7_text_304 : decode cX7_text 304 = .ok (.goto 4, 3) := by decide +kernel
theorem dX7_text_307 : decode cX7_text 307 = .ok (.iconst (-1), 1) := by decide +kernel
theorem dX7_text_308 : decode cX7_text 308 = .ok (.ireturn, 1) := by decide +kernel
