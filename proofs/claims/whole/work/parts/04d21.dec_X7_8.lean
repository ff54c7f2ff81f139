theorem dX7_moment_208 : decode cX7_moment 208 = .ok (.iadd, 1) := by decide +kernel
theorem dX7_moment_209 : decode cX7_moment 209 = .ok (.laload, 1) := by decide +kernel
theorem dX7_moment_210 : decode cX7_moment 210 = .ok (.lload 8, 2) := by decide +kernel
theorem dX7_moment_212 : decode cX7_moment 212 = .ok (.invokevirtual 243, 3) := by decide +kernel
theorem dX7_moment_215 : decode cX7_moment 215 = .ok (.lstore 8, 2) := by decide +kernel
theorem dX7_moment_217 : decode cX7_moment 217 = .ok (.iinc 10 1, 3) := by decide +kernel
theorem dX7_moment_220 : decode cX7_moment 220 = .ok (.goto (-37), 3) := by decide +kernel
theorem dX7_moment_223 : decode cX7_moment 223 = .ok (.aload_n 0, 1) := by decide +kernel
theorem dX7_moment_224 : decode cX7_moment 224 = .ok (.lload 4, 2) := by decide +kernel
theorem dX7_moment_226 : decode cX7_moment 226 = .ok (.invokevirtual 228, 3) := by decide +kernel
theorem dX7_moment_229 : decode cX7_moment 229 = .ok (.lstore 10, 2) := by decide +kernel
theorem dX7_moment_231 : decode cX7_moment 231 = .ok (.iconst 0, 1) := by decide +kernel
theorem dX7_moment_232 : decode cX7_moment 232 = .ok (.istore 12, 2) := by decide +kernel
theorem dX7_moment_234 : decode cX7_moment 234 = .ok (.iload 12, 2) := by decide +kernel
theorem dX7_moment_236 : decode cX7_moment 236 = .ok (.aload_n 0, 1) := by decide +kernel
theorem dX7_moment_237 : decode cX7_moment 237 = .ok (.getfield 29, 3) := by decide +kernel
theorem dX7_moment_240 : decode cX7_moment 240 = .ok (.iload_n 2, 1) := by decide +kernel
theorem dX7_moment_241 : decode cX7_moment 241 = .ok (.iaload, 1) := by decide +kernel
theorem dX7_moment_242 : decode cX7_moment 242 = .ok (.if_icmp .ge 65, 3) := by decide +kernel
theorem dX7_moment_245 : decode cX7_moment 245 = .ok (.lload 10, 2) := by decide +kernel
theorem dX7_moment_247 : decode cX7_moment 247 = .ok (.lconst 1, 1) := by decide +kernel
theorem dX7_moment_248 : decode cX7_moment 248 = .ok (.lsub, 1) := by decide +kernel
theorem dX7_moment_249 : decode cX7_moment 249 = .ok (.lstore 13, 2) := by decide +kernel
theorem dX7_moment_251 : decode cX7_moment 251 = .ok (.lload 13, 2) := by decide +kernel
theorem dX7_moment_253 : decode cX7_moment 253 = .ok (.lload 10, 2) := by decide +kernel
theorem dX7_moment_255 : decode cX7_moment 255 = .ok (.lconst 1, 1) := by decide +kernel
theorem dX7_moment_256 : decode cX7_moment 256 = .ok (.ladd, 1) := by decide +kernel
theorem dX7_moment_257 : decode cX7_moment 257 = .ok (.lcmp, 1) := by decide +kernel
theorem dX7_moment_258 : decode cX7_moment 258 = .ok (.ifCond .gt 43, 3) := by decide +kernel
theorem dX7_moment_261 : decode cX7_moment 261 = .ok (.aload_n 0, 1) := by decide +kernel
theorem dX7_moment_262 : decode cX7_moment 262 = .ok (.iload_n 2, 1) := by decide +kernel
theorem dX7_moment_263 : decode cX7_moment 263 = .ok (.bipush 10, 2) := by decide +kernel
theorem dX7_moment_265 : decode cX7_moment 265 = .ok (.iload_n 2, 1) := by decide +kernel
theorem dX7_moment_266 : decode cX7_moment 266 = .ok (.imul, 1) := by decide +kernel
theorem dX7_moment_267 : decode cX7_moment 267 = .ok (.iconst 5, 1) := by decide +kernel
theorem dX7_moment_268 : decode cX7_moment 268 = .ok (.iload 12, 2) := by decide +kernel
theorem dX7_moment_270 : decode cX7_moment 270 = .ok (.imul, 1) := by decide +kernel
theorem dX7_moment_271 : decode cX7_moment 271 = .ok (.iadd, 1) := by decide +kernel
theorem dX7_moment_272 : decode cX7_moment 272 = .ok (.lload 13, 2) := by decide +kernel
theorem dX7_moment_274 : decode cX7_moment 274 = .ok (.invokevirtual 231, 3) := by decide +kernel
theorem dX7_moment_277 : decode cX7_moment 277 = .ok (.lstore 15, 2) := by decide +kernel
theorem dX7_moment_279 : decode cX7_moment 279 = .ok (.aload_n 0, 1) := by decide +kernel
theorem dX7_moment_280 : decode cX7_moment 280 = .ok (.iload_n 2, 1) := by decide +kernel
theorem dX7_moment_281 : decode cX7_moment 281 = .ok (.lload 4, 2) := by decide +kernel
theorem dX7_moment_283 : decode cX7_moment 283 = .ok (.lload 15, 2) := by decide +kernel
theorem dX7_moment_285 : decode cX7_moment 285 = .ok (.lload 8, 2) := by decide +kernel
theorem dX7_moment_287 : decode cX7_moment 287 = .ok (.invokevirtual 243, 3) := by decide +kernel
theorem dX7_moment_290 : decode cX7_moment 290 = .ok (.lstore 8, 2) := by decide +kernel
theorem dX7_moment_292 : decode cX7_moment 292 = .ok (.lload 13, 2) := by decide +kernel
theorem dX7_moment_294 : decode cX7_moment 294 = .ok (.lconst 1, 1) := by decide +kernel
theorem dX7_moment_295 : decode cX7_moment 295 = .ok (.ladd, 1) := by decide +kernel
theorem dX7_moment_296 : decode cX7_moment 296 = .ok (.lstore 13, 2) := by decide +kernel
theorem dX7_moment_298 : decode cX7_moment 298 = .ok (.goto (-47), 3) := by decide +kernel
theorem dX7_moment_301 : decode cX7_moment 301 = .ok (.iinc 12 1, 3) := by decide +kernel
theorem dX7_moment_304 : decode cX7_moment 304 = .ok (.goto (-70), 3) := by decide +kernel
theorem dX7_moment_307 : decode cX7_moment 307 = .ok (.lload 4, 2) := by decide +kernel
theorem dX7_moment_309 : decode cX7_moment 309 = .ok (.aload_n 0, 1) := by decide +kernel
theorem dX7_moment_310 : decode cX7_moment 310 = .ok (.iload_n 2, 1) := by decide +kernel
theorem dX7_moment_311 : decode cX7_moment 311 = .ok (.lload 8, 2) := by decide +kernel
theorem dX7_moment_313 : decode cX7_moment 313 = .ok (.lconst 1, 1) := by decide +kernel
theorem dX7_moment_314 : decode cX7_moment 314 = .ok (.lsub, 1) := by decide +kernel
theorem dX7_moment_315 : decode cX7_moment 315 = .ok (.invokevirtual 235, 3) := by decide +kernel
theorem dX7_moment_318 : decode cX7_moment 318 = .ok (.i2l, 1) := by decide +kernel
theorem dX7_moment_319 : decode cX7_moment 319 = .ok (.lsub, 1) := by decide +kernel
theorem dX7_moment_320 : decode cX7_moment 320 = .ok (.lreturn, 1) := by decide +kernel
theorem dX7_show_0 : decode cX7_show 0 = .ok (.aload_n 0, 1) := by decide +kernel
theorem dX7_show_1 : decode cX7_show 1 = .ok (.iload_n 1, 1) := by decide +kernel
theorem dX7_show_2 : decode cX7_show 2 = .ok (.invokevirtual 120, 3) := by decide +kernel
theorem dX7_show_5 : decode cX7_show 5 = .ok (.ifCond .ne 4, 3) := by decide +kernel
theorem dX7_show_8 : decode cX7_show 8 = .ok (.return_, 1) := by decide +kernel
theorem dX7_show_9 : decode cX7_show 9 = .ok (.aload_n 0, 1) := by decide +kernel
theorem dX7_show_10 : decode cX7_show 10 = .ok (.iload_n 2, 1) := by decide +kernel
theorem dX7_show_11 : decode cX7_show 11 = .ok (.i2l, 1) := by decide +kernel
theorem dX7_show_12 : decode cX7_show 12 = .ok (.lconst 0, 1) := by decide +kernel
theorem dX7_show_13 : decode cX7_show 13 = .ok (.ldc2_w 90, 3) := by decide +kernel
theorem dX7_show_16 : decode cX7_show 16 = .ok (.invokestatic 102, 3) := by decide +kernel
theorem dX7_show_19 : decode cX7_show 19 = .ok (.ifCond .ne 7, 3) := by decide +kernel
theorem dX7_show_22 : decode cX7_show 22 = .ok (.iconst 2, 1) := by decide +kernel
theorem dX7_show_23 : decode cX7_show 23 = .ok (.goto 15, 3) := by decide +kernel
theorem dX7_show_26 : decode cX7_show 26 = .ok (.lload_n 3, 1) := by decide +kernel
theorem dX7_show_27 : decode cX7_show 27 = .ok (.invokestatic 220, 3) := by decide +kernel
theorem dX7_show_30 : decode cX7_show 30 = .ok (.ifCond .ne 7, 3) := by decide +kernel
theorem dX7_show_33 : decode cX7_show 33 = .ok (.iconst 3, 1) := by decide +kernel
theorem dX7_show_34 : decode cX7_show 34 = .ok (.goto 4, 3) := by decide +kernel
theorem dX7_show_37 : decode cX7_show 37 = .ok (.iconst 0, 1) := by decide +kernel
theorem dX7_show_38 : decode cX7_show 38 = .ok (.putfield 41, 3) := by decide +kernel
theorem dX7_show_41 : decode cX7_show 41 = .ok (.aload_n 0, 1) := by decide +kernel
theorem dX7_show_42 : decode cX7_show 42 = .ok (.getfield 41, 3) := by decide +kernel
theorem dX7_show_45 : decode cX7_show 45 = .ok (.ifCond .le 4, 3) := by decide +kernel
theorem dX7_show_48 : decode cX7_show 48 = .ok (.return_, 1) := by decide +kernel
theorem dX7_show_49 : decode cX7_show 49 = .ok (.lload_n 3, 1) := by decide +kernel
theorem dX7_show_50 : decode cX7_show 50 = .ok (.aload_n 0, 1) := by decide +kernel
theorem dX7_show_51 : decode cX7_show 51 = .ok (.iload_n 2, 1) := by decide +kernel
theorem dX7_show_52 : decode cX7_show 52 = .ok (.lload_n 3, 1) := by decide +kernel
theorem dX7_show_53 : decode cX7_show 53 = .ok (.invokevirtual 235, 3) := by decide +kernel
theorem dX7_show_56 : decode cX7_show 56 = .ok (.i2l, 1) := by decide +kernel
theorem dX7_show_57 : decode cX7_show 57 = .ok (.ladd, 1) := by decide +kernel
theorem dX7_show_58 : decode cX7_show 58 = .ok (.lstore 5, 2) := by decide +kernel
theorem dX7_show_60 : decode cX7_show 60 = .ok (.lload 5, 2) := by decide +kernel
theorem dX7_show_62 : decode cX7_show 62 = .ok (.ldc2_w 171, 3) := by decide +kernel
theorem dX7_show_65 : decode cX7_show 65 = .ok (.invokestatic 59, 3) := by decide +kernel
theorem dX7_show_68 : decode cX7_show 68 = .ok (.lstore 7, 2) := by decide +kernel
theorem dX7_show_70 : decode cX7_show 70 = .ok (.aload_n 0, 1) := by decide +kernel
theorem dX7_show_71 : decode cX7_show 71 = .ok (.lload 7, 2) := by decide +kernel
theorem dX7_show_73 : decode cX7_show 73 = .ok (.invokestatic 166, 3) := by decide +kernel
theorem dX7_show_76 : decode cX7_show 76 = .ok (.ifCond .eq 7, 3) := by decide +kernel
theorem dX7_show_79 : decode cX7_show 79 = .ok (.iconst 0, 1) := by decide +kernel
theorem dX7_show_80 : decode cX7_show 80 = .ok (.goto 4, 3) := by decide +kernel
theorem dX7_show_83 : decode cX7_show 83 = .ok (.iconst 3, 1) := by decide +kernel
theorem dX7_show_84 : decode cX7_show 84 = .ok (.putfield 41, 3) := by decide +kernel
theorem dX7_show_87 : decode cX7_show 87 = .ok (.aload_n 0, 1) := by decide +kernel
theorem dX7_show_88 : decode cX7_show 88 = .ok (.getfield 41, 3) := by decide +kernel
theorem dX7_show_91 : decode cX7_show 91 = .ok (.ifCond .ne 30, 3) := by decide +kernel
theorem dX7_show_94 : decode cX7_show 94 = .ok (.aload_n 0, 1) := by decide +kernel
theorem dX7_show_95 : decode cX7_show 95 = .ok (.getfield 7, 3) := by decide +kernel
theorem dX7_show_98 : decode cX7_show 98 = .ok (.iload_n 1, 1) := by decide +kernel
theorem dX7_show_99 : decode cX7_show 99 = .ok (.lload 7, 2) := by decide +kernel
theorem dX7_show_101 : decode cX7_show 101 = .ok (.lastore, 1) := by decide +kernel
theorem dX7_show_102 : decode cX7_show 102 = .ok (.aload_n 0, 1) := by decide +kernel
theorem dX7_show_103 : decode cX7_show 103 = .ok (.getfield 13, 3) := by decide +kernel
theorem dX7_show_106 : decode cX7_show 106 = .ok (.iload_n 1, 1) := by decide +kernel
theorem dX7_show_107 : decode cX7_show 107 = .ok (.ldc2_w 134, 3) := by decide +kernel
theorem dX7_show_110 : decode cX7_show 110 = .ok (.lload 5, 2) := by decide +kernel
theorem dX7_show_112 : decode cX7_show 112 = .ok (.ldc2_w 171, 3) := by decide +kernel
theorem dX7_show_115 : decode cX7_show 115 = .ok (.lload 7, 2) := by decide +kernel
theorem dX7_show_117 : decode cX7_show 117 = .ok (.lmul, 1) := by decide +kernel
theorem dX7_show_118 : decode cX7_show 118 = .ok (.lsub, 1) := by decide +kernel
theorem dX7_show_119 : decode cX7_show 119 = .ok (.lmul, 1) := by decide +kernel
theorem dX7_show_120 : decode cX7_show 120 = .ok (.lastore, 1) := by decide +kernel
theorem dX7_show_121 : decode cX7_show 121 = .ok (.return_, 1) := by decide +kernel
theorem dX7_julian_0 : decode cX7_julian 0 = .ok (.aload_n 0, 1) := by decide +kernel
theorem dX7_julian_1 : decode cX7_julian 1 = .ok (.iload_n 1, 1) := by decide +kernel
theorem dX7_julian_2 : decode cX7_julian 2 = .ok (.invokevirtual 120, 3) := by decide +kernel
theorem dX7_julian_5 : decode cX7_julian 5 = .ok (.ifCond .ne 5, 3) := by decide +kernel
theorem dX7_julian_8 : decode cX7_julian 8 = .ok (.dconst 0, 1) := by decide +kernel
theorem dX7_julian_9 : decode cX7_julian 9 = .ok (.dreturn, 1) := by decide +kernel
theorem dX7_julian_10 : decode cX7_julian 10 = .ok (.aload_n 0, 1) := by decide +kernel
theorem dX7_julian_11 : decode cX7_julian 11 = .ok (.getfield 7, 3) := by decide +kernel
theorem dX7_julian_14 : decode cX7_julian 14 = .ok (.iload_n 1, 1) := by decide +kernel
theorem dX7_julian_15 : decode cX7_julian 15 = .ok (.laload, 1) := by decide +kernel
theorem dX7_julian_16 : decode cX7_julian 16 = .ok (.l2d, 1) := by decide +kernel
theorem dX7_julian_17 : decode cX7_julian 17 = .ok (.ldc2_w 247, 3) := by decide +kernel
theorem dX7_julian_20 : decode cX7_julian 20 = .ok (.dadd, 1) := by decide +kernel
theorem dX7_julian_21 : decode cX7_julian 21 = .ok (.aload_n 0, 1) := by decide +kernel
theorem dX7_julian_22 : decode cX7_julian 22 = .ok (.getfield 13, 3) := by decide +kernel
theorem dX7_julian_25 : decode cX7_julian 25 = .ok (.iload_n 1, 1) := by decide +kernel
theorem dX7_julian_26 : decode cX7_julian 26 = .ok (.laload, 1) := by decide +kernel
theorem dX7_julian_27 : decode cX7_julian 27 = .ok (.l2d, 1) := by decide +kernel
theorem dX7_julian_28 : decode cX7_julian 28 = .ok (.ldc2_w 249, 3) := by decide +kernel
theorem dX7_julian_31 : decode cX7_julian 31 = .ok (.ddiv, 1) := by decide +kernel
theorem dX7_julian_32 : decode cX7_julian 32 = .ok (.dadd, 1) := by decide +kernel
theorem dX7_julian_33 : decode cX7_julian 33 = .ok (.dreturn, 1) := by decide +kernel
theorem dX7_type_0 : decode cX7_type 0 = .ok (.aload_n 0, 1) := by decide +kernel
theorem dX7_type_1 : decode cX7_type 1 = .ok (.iconst 0, 1) := by decide +kernel
theorem dX7_type_2 : decode cX7_type 2 = .ok (.putfield 41, 3) := by decide +kernel
theorem dX7_type_5 : decode cX7_type 5 = .ok (.iload_n 1, 1) := by decide +kernel
theorem dX7_type_6 : decode cX7_type 6 = .ok (.bipush 32, 2) := by decide +kernel
theorem dX7_type_8 : decode cX7_type 8 = .ok (.if_icmp .lt 18, 3) := by decide +kernel
theorem dX7_type_11 : decode cX7_type 11 = .ok (.iload_n 1, 1) := by decide +kernel
theorem dX7_type_12 : decode cX7_type 12 = .ok (.bipush 126, 2) := by decide +kernel
theorem dX7_type_14 : decode cX7_type 14 = .ok (.if_icmp .gt 12, 3) := by decide +kernel
theorem dX7_type_17 : decode cX7_type 17 = .ok (.aload_n 0, 1) := by decide +kernel
theorem dX7_type_18 : decode cX7_type 18 = .ok (.getfield 251, 3) := by decide +kernel
theorem dX7_type_21 : decode cX7_type 21 = .ok (.bipush 30, 2) := by decide +kernel
theorem dX7_type_23 : decode cX7_type 23 = .ok (.if_icmp .ne 5, 3) := by decide +kernel
theorem dX7_type_26 : decode cX7_type 26 = .ok (.iconst 0, 1) := by decide +kernel
theorem dX7_type_27 : decode cX7_type 27 = .ok (.ireturn, 1) := by decide +kernel
theorem dX7_type_28 : decode cX7_type 28 = .ok (.aload_n 0, 1) := by decide +kernel
theorem dX7_type_29 : decode cX7_type 29 = .ok (.getfield 35, 3) := by decide +kernel
theorem dX7_type_32 : decode cX7_type 32 = .ok (.aload_n 0, 1) := by decide +kernel
theorem dX7_type_33 : decode cX7_type 33 = .ok (.getfield 251, 3) := by decide +kernel
theorem dX7_type_36 : decode cX7_type 36 = .ok (.iload_n 1, 1) := by decide +kernel
theorem dX7_type_37 : decode cX7_type 37 = .ok (.iastore, 1) := by decide +kernel
theorem dX7_type_38 : decode cX7_type 38 = .ok (.aload_n 0, 1) := by decide +kernel
theorem dX7_type_39 : decode cX7_type 39 = .ok (.dup, 1) := by decide +kernel
theorem dX7_type_40 : decode cX7_type 40 = .ok (.getfield 251, 3) := by decide +kernel
theorem dX7_type_43 : decode cX7_type 43 = .ok (.iconst 1, 1) := by decide +kernel
theorem dX7_type_44 : decode cX7_type 44 = .ok (.iadd, 1) := by decide +kernel
theorem dX7_type_45 : decode cX7_type 45 = .ok (.putfield 251, 3) := by decide +kernel
theorem dX7_type_48 : decode cX7_type 48 = .ok (.iconst 1, 1) := by decide +kernel
theorem dX7_type_49 : decode cX7_type 49 = .ok (.ireturn, 1) := by decide +kernel
theorem dX7_eat_0 : decode cX7_eat 0 = .ok (.aload_n 0, 1) := by decide +kernel
theorem dX7_eat_1 : decode cX7_eat 1 = .ok (.getfield 254, 3) := by decide +kernel
theorem dX7_eat_4 : decode cX7_eat 4 = .ok (.aload_n 0, 1) := by decide +kernel
theorem dX7_eat_5 : decode cX7_eat 5 = .ok (.getfield 251, 3) := by decide +kernel
theorem dX7_eat_8 : decode cX7_eat 8 = .ok (.if_icmp .ge 20, 3) := by decide +kernel
theorem dX7_eat_11 : decode cX7_eat 11 = .ok (.aload_n 0, 1) := by decide +kernel
theorem dX7_eat_12 : decode cX7_eat 12 = .ok (.getfield 35, 3) := by decide +kernel
theorem dX7_eat_15 : decode cX7_eat 15 = .ok (.aload_n 0, 1) := by decide +kernel
theorem dX7_eat_16 : decode cX7_eat 16 = .ok (.getfield 254, 3) := by decide +kernel
theorem dX7_eat_19 : decode cX7_eat 19 = .ok (.iaload, 1) := by decide +kernel
theorem dX7_eat_20 : decode cX7_eat 20 = .ok (.iload_n 1, 1) := by decide +kernel
theorem dX7_eat_21 : decode cX7_eat 21 = .ok (.if_icmp .ne 7, 3) := by decide +kernel
theorem dX7_eat_24 : decode cX7_eat 24 = .ok (.iconst 1, 1) := by decide +kernel
theorem dX7_eat_25 : decode cX7_eat 25 = .ok (.goto 4, 3) := by decide +kernel
theorem dX7_eat_28 : decode cX7_eat 28 = .ok (.iconst 0, 1) := by decide +kernel
theorem dX7_eat_29 : decode cX7_eat 29 = .ok (.istore_n 2, 1) := by decide +kernel
theorem dX7_eat_30 : decode cX7_eat 30 = .ok (.aload_n 0, 1) := by decide +kernel
theorem dX7_eat_31 : decode cX7_eat 31 = .ok (.iload_n 2, 1) := by decide +kernel
theorem dX7_eat_32 : decode cX7_eat 32 = .ok (.ifCond .eq 12, 3) := by decide +kernel
theorem dX7_eat_35 : decode cX7_eat 35 = .ok (.aload_n 0, 1) := by decide +kernel
theorem dX7_eat_36 : decode cX7_eat 36 = .ok (.getfield 254, 3) := by decide +kernel
theorem dX7_eat_39 : decode cX7_eat 39 = .ok (.iconst 1, 1) := by decide +kernel
theorem dX7_eat_40 : decode cX7_eat 40 = .ok (.iadd, 1) := by decide +kernel
theorem dX7_eat_41 : decode cX7_eat 41 = .ok (.goto 7, 3) := by decide +kernel
theorem dX7_eat_44 : decode cX7_eat 44 = .ok (.aload_n 0, 1) := by decide +kernel
theorem dX7_eat_45 : decode cX7_eat 45 = .ok (.getfield 254, 3) := by decide +kernel
theorem dX7_eat_48 : decode cX7_eat 48 = .ok (.putfield 254, 3) := by decide +kernel
theorem dX7_eat_51 : decode cX7_eat 51 = .ok (.iload_n 2, 1) := by decide +kernel
theorem dX7_eat_52 : decode cX7_eat 52 = .ok (.ireturn, 1) := by decide +kernel
theorem dX7_want_0 : decode cX7_want 0 = .ok (.aload_n 0, 1) := by decide +kernel
theorem dX7_want_1 : decode cX7_want 1 = .ok (.aload_n 0, 1) := by decide +kernel
theorem dX7_want_2 : decode cX7_want 2 = .ok (.iload_n 1, 1) := by decide +kernel
theorem dX7_want_3 : decode cX7_want 3 = .ok (.invokevirtual 257, 3) := by decide +kernel
theorem dX7_want_6 : decode cX7_want 6 = .ok (.ifCond .eq 10, 3) := by decide +kernel
theorem dX7_want_9 : decode cX7_want 9 = .ok (.aload_n 0, 1) := by decide +kernel
theorem dX7_want_10 : decode cX7_want 10 = .ok (.getfield 260, 3) := by decide +kernel
theorem dX7_want_13 : decode cX7_want 13 = .ok (.ifCond .eq 7, 3) := by decide +kernel
theorem dX7_want_16 : decode cX7_want 16 = .ok (.iconst 1, 1) := by decide +kernel
theorem dX7_want_17 : decode cX7_want 17 = .ok (.goto 4, 3) := by decide +kernel
theorem dX7_want_20 : decode cX7_want 20 = .ok (.iconst 0, 1) := by decide +kernel
theorem dX7_want_21 : decode cX7_want 21 = .ok (.putfield 260, 3) := by decide +kernel
theorem dX7_want_24 : decode cX7_want 24 = .ok (.return_, 1) := by decide +kernel
theorem dX7_digits_0 : decode cX7_digits 0 = .ok (.iconst 0, 1) := by decide +kernel
theorem dX7_digits_1 : decode cX7_digits 1 = .ok (.istore_n 2, 1) := by decide +kernel
theorem dX7_digits_2 : decode cX7_digits 2 = .ok (.iconst 0, 1) := by decide +kernel
theorem dX7_digits_3 : decode cX7_digits 3 = .ok (.istore_n 3, 1) := by decide +kernel
theorem dX7_digits_4 : decode cX7_digits 4 = .ok (.iload_n 3, 1) := by decide +kernel
theorem dX7_digits_5 : decode cX7_digits 5 = .ok (.iload_n 1, 1) := by decide +kernel
theorem dX7_digits_6 : decode cX7_digits 6 = .ok (.if_icmp .ge 119, 3) := by decide +kernel
theorem dX7_digits_9 : decode cX7_digits 9 = .ok (.aload_n 0, 1) := by decide +kernel
theorem dX7_digits_10 : decode cX7_digits 10 = .ok (.getfield 254, 3) := by decide +kernel
theorem dX7_digits_13 : decode cX7_digits 13 = .ok (.aload_n 0, 1) := by decide +kernel
theorem dX7_digits_14 : decode cX7_digits 14 = .ok (.getfield 251, 3) := by decide +kernel
theorem dX7_digits_17 : decode cX7_digits 17 = .ok (.if_icmp .ge 29, 3) := by decide +kernel
theorem dX7_digits_20 : decode cX7_digits 20 = .ok (.aload_n 0, 1) := by decide +kernel
theorem dX7_digits_21 : decode cX7_digits 21 = .ok (.getfield 35, 3) := by decide +kernel
theorem dX7_digits_24 : decode cX7_digits 24 = .ok (.aload_n 0, 1) := by decide +kernel
theorem dX7_digits_25 : decode cX7_digits 25 = .ok (.getfield 254, 3) := by decide +kernel
theorem dX7_digits_28 : decode cX7_digits 28 = .ok (.iaload, 1) := by decide +kernel
theorem dX7_digits_29 : decode cX7_digits 29 = .ok (.i2l, 1) := by decide +kernel
theorem dX7_digits_30 : decode cX7_digits 30 = .ok (.ldc2_w 264, 3) := by decide +kernel
theorem dX7_digits_33 : decode cX7_digits 33 = .ok (.ldc2_w 266, 3) := by decide +kernel
theorem dX7_digits_36 : decode cX7_digits 36 = .ok (.invokestatic 102, 3) := by decide +kernel
theorem dX7_digits_39 : decode cX7_digits 39 = .ok (.ifCond .eq 7, 3) := by decide +kernel
theorem dX7_digits_42 : decode cX7_digits 42 = .ok (.iconst 1, 1) := by decide +kernel
theorem dX7_digits_43 : decode cX7_digits 43 = .ok (.goto 4, 3) := by decide +kernel
theorem dX7_digits_46 : decode cX7_digits 46 = .ok (.iconst 0, 1) := by decide +kernel
theorem dX7_digits_47 : decode cX7_digits 47 = .ok (.istore 4, 2) := by decide +kernel
theorem dX7_digits_49 : decode cX7_digits 49 = .ok (.bipush 10, 2) := by decide +kernel
theorem dX7_digits_51 : decode cX7_digits 51 = .ok (.iload_n 2, 1) := by decide +kernel
theorem dX7_digits_52 : decode cX7_digits 52 = .ok (.imul, 1) := by decide +kernel
theorem dX7_digits_53 : decode cX7_digits 53 = .ok (.iload 4, 2) := by decide +kernel
theorem dX7_digits_55 : decode cX7_digits 55 = .ok (.ifCond .eq 18, 3) := by decide +kernel
theorem dX7_digits_58 : decode cX7_digits 58 = .ok (.aload_n 0, 1) := by decide +kernel
theorem dX7_digits_59 : decode cX7_digits 59 = .ok (.getfield 35, 3) := by decide +kernel
theorem dX7_digits_62 : decode cX7_digits 62 = .ok (.aload_n 0, 1) := by decide +kernel
theorem dX7_digits_63 : decode cX7_digits 63 = .ok (.getfield 254, 3) := by decide +kernel
theorem dX7_digits_66 : decode cX7_digits 66 = .ok (.iaload, 1) := by decide +kernel
theorem dX7_digits_67 : decode cX7_digits 67 = .ok (.bipush 48, 2) := by decide +kernel
theorem dX7_digits_69 : decode cX7_digits 69 = .ok (.isub, 1) := by decide +kernel
theorem dX7_digits_70 : decode cX7_digits 70 = .ok (.goto 4, 3) := by decide +kernel
theorem dX7_digits_73 : decode cX7_digits 73 = .ok (.iconst 0, 1) := by decide +kernel
theorem dX7_digits_74 : decode cX7_digits 74 = .ok (.iadd, 1) := by decide +kernel
theorem dX7_digits_75 : decode cX7_digits 75 = .ok (.istore_n 2, 1) := by decide +kernel
theorem dX7_digits_76 : decode cX7_digits 76 = .ok (.aload_n 0, 1) := by decide +kernel
theorem dX7_digits_77 : decode cX7_digits 77 = .ok (.aload_n 0, 1) := by decide +kernel
theorem dX7_digits_78 : decode cX7_digits 78 = .ok (.getfield 260, 3) := by decide +kernel
theorem dX7_digits_81 : decode cX7_digits 81 = .ok (.ifCond .ne 8, 3) := by decide +kernel
theorem dX7_digits_84 : decode cX7_digits 84 = .ok (.iload 4, 2) := by decide +kernel
theorem dX7_digits_86 : decode cX7_digits 86 = .ok (.ifCond .ne 7, 3) := by decide +kernel
theorem dX7_digits_89 : decode cX7_digits 89 = .ok (.iconst 1, 1) := by decide +kernel
theorem dX7_digits_90 : decode cX7_digits 90 = .ok (.goto 4, 3) := by decide +kernel
theorem dX7_digits_93 : decode cX7_digits 93 = .ok (.iconst 0, 1) := by decide +kernel
theorem dX7_digits_94 : decode cX7_digits 94 = .ok (.putfield 260, 3) := by decide +kernel
theorem dX7_digits_97 : decode cX7_digits 97 = .ok (.aload_n 0, 1) := by decide +kernel
theorem dX7_digits_98 : decode cX7_digits 98 = .ok (.iload 4, 2) := by decide +kernel
theorem dX7_digits_100 : decode cX7_digits 100 = .ok (.ifCond .eq 12, 3) := by decide +kernel
theorem dX7_digits_103 : decode cX7_digits 103 = .ok (.aload_n 0, 1) := by decide +kernel
theorem dX7_digits_104 : decode cX7_digits 104 = .ok (.getfield 254, 3) := by decide +kernel
theorem dX7_digits_107 : decode cX7_digits 107 = .ok (.iconst 1, 1) := by decide +kernel
theorem dX7_digits_108 : decode cX7_digits 108 = .ok (.iadd, 1) := by decide +kernel
theorem dX7_digits_109 : decode cX7_digits 109 = .ok (.goto 7, 3) := by decide +kernel
theorem dX7_digits_112 : decode cX7_digits 112 = .ok (.aload_n 0, 1) := by decide +kernel
theorem dX7_digits_113 : decode cX7_digits 113 = .ok (.getfield 254, 3) := by decide +kernel
theorem dX7_digits_116 : decode cX7_digits 116 = .ok (.putfield 254, 3) := by decide +kernel
theorem dX7_digits_119 : decode cX7_digits 119 = .ok (.iinc 3 1, 3) := by decide +kernel
theorem dX7_digits_122 : decode cX7_digits 122 = .ok (.goto (-118), 3) := by decide +kernel
theorem dX7_digits_125 : decode cX7_digits 125 = .ok (.iload_n 2, 1) := by decide +kernel
theorem dX7_digits_126 : decode cX7_digits 126 = .ok (.ireturn, 1) := by decide +kernel
theorem dX7_parse_0 : decode cX7_parse 0 = .ok (.aload_n 0, 1) := by decide +kernel
theorem dX7_parse_1 : decode cX7_parse 1 = .ok (.iload_n 1, 1) := by decide +kernel
theorem dX7_parse_2 : decode cX7_parse 2 = .ok (.invokevirtual 120, 3) := by decide +kernel
theorem dX7_parse_5 : decode cX7_parse 5 = .ok (.ifCond .ne 4, 3) := by decide +kernel
theorem dX7_parse_8 : decode cX7_parse 8 = .ok (.return_, 1) := by decide +kernel
theorem dX7_parse_9 : decode cX7_parse 9 = .ok (.aload_n 0, 1) := by decide +kernel
theorem dX7_parse_10 : decode cX7_parse 10 = .ok (.iconst 0, 1) := by decide +kernel
theorem dX7_parse_11 : decode cX7_parse 11 = .ok (.putfield 254, 3) := by decide +kernel
theorem dX7_parse_14 : decode cX7_parse 14 = .ok (.aload_n 0, 1) := by decide +kernel
theorem dX7_parse_15 : decode cX7_parse 15 = .ok (.iconst 0, 1) := by decide +kernel
