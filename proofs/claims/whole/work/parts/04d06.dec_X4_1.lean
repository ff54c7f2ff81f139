theorem dX4_setDateField_207 : decode cX4_setDateField 207 = .ok (.getfield 9, 3) := by decide +kernel
theorem dX4_setDateField_210 : decode cX4_setDateField 210 = .ok (.iconst 1, 1) := by decide +kernel
theorem dX4_setDateField_211 : decode cX4_setDateField 211 = .ok (.iconst 1, 1) := by decide +kernel
theorem dX4_setDateField_212 : decode cX4_setDateField 212 = .ok (.invokestatic 25, 3) := by decide +kernel
theorem dX4_setDateField_215 : decode cX4_setDateField 215 = .ok (.lload_n 2, 1) := by decide +kernel
theorem dX4_setDateField_216 : decode cX4_setDateField 216 = .ok (.ladd, 1) := by decide +kernel
theorem dX4_setDateField_217 : decode cX4_setDateField 217 = .ok (.lconst 1, 1) := by decide +kernel
theorem dX4_setDateField_218 : decode cX4_setDateField 218 = .ok (.lsub, 1) := by decide +kernel
theorem dX4_setDateField_219 : decode cX4_setDateField 219 = .ok (.invokevirtual 64, 3) := by decide +kernel
theorem dX4_setDateField_222 : decode cX4_setDateField 222 = .ok (.ifCond .eq 7, 3) := by decide +kernel
theorem dX4_setDateField_225 : decode cX4_setDateField 225 = .ok (.iconst 1, 1) := by decide +kernel
theorem dX4_setDateField_226 : decode cX4_setDateField 226 = .ok (.goto 4, 3) := by decide +kernel
theorem dX4_setDateField_229 : decode cX4_setDateField 229 = .ok (.iconst 0, 1) := by decide +kernel
theorem dX4_setDateField_230 : decode cX4_setDateField 230 = .ok (.ireturn, 1) := by decide +kernel
theorem dX4_setDateField_231 : decode cX4_setDateField 231 = .ok (.aload_n 0, 1) := by decide +kernel
theorem dX4_setDateField_232 : decode cX4_setDateField 232 = .ok (.lload_n 2, 1) := by decide +kernel
theorem dX4_setDateField_233 : decode cX4_setDateField 233 = .ok (.invokevirtual 64, 3) := by decide +kernel
theorem dX4_setDateField_236 : decode cX4_setDateField 236 = .ok (.ireturn, 1) := by decide +kernel
theorem dX4_setDateField_237 : decode cX4_setDateField 237 = .ok (.lload_n 2, 1) := by decide +kernel
theorem dX4_setDateField_238 : decode cX4_setDateField 238 = .ok (.invokestatic 109, 3) := by decide +kernel
theorem dX4_setDateField_241 : decode cX4_setDateField 241 = .ok (.ifCond .eq 29, 3) := by decide +kernel
theorem dX4_setDateField_244 : decode cX4_setDateField 244 = .ok (.aload_n 0, 1) := by decide +kernel
theorem dX4_setDateField_245 : decode cX4_setDateField 245 = .ok (.aload_n 0, 1) := by decide +kernel
theorem dX4_setDateField_246 : decode cX4_setDateField 246 = .ok (.invokevirtual 31, 3) := by decide +kernel
theorem dX4_setDateField_249 : decode cX4_setDateField 249 = .ok (.lload_n 2, 1) := by decide +kernel
theorem dX4_setDateField_250 : decode cX4_setDateField 250 = .ok (.ladd, 1) := by decide +kernel
theorem dX4_setDateField_251 : decode cX4_setDateField 251 = .ok (.aload_n 0, 1) := by decide +kernel
theorem dX4_setDateField_252 : decode cX4_setDateField 252 = .ok (.invokevirtual 31, 3) := by decide +kernel
theorem dX4_setDateField_255 : decode cX4_setDateField 255 = .ok (.invokestatic 83, 3) := by decide +kernel
theorem dX4_setDateField_258 : decode cX4_setDateField 258 = .ok (.i2l, 1) := by decide +kernel
theorem dX4_setDateField_259 : decode cX4_setDateField 259 = .ok (.lsub, 1) := by decide +kernel
theorem dX4_setDateField_260 : decode cX4_setDateField 260 = .ok (.invokevirtual 64, 3) := by decide +kernel
theorem dX4_setDateField_263 : decode cX4_setDateField 263 = .ok (.ifCond .eq 7, 3) := by decide +kernel
theorem dX4_setDateField_266 : decode cX4_setDateField 266 = .ok (.iconst 1, 1) := by decide +kernel
theorem dX4_setDateField_267 : decode cX4_setDateField 267 = .ok (.goto 4, 3) := by decide +kernel
theorem dX4_setDateField_270 : decode cX4_setDateField 270 = .ok (.iconst 0, 1) := by decide +kernel
theorem dX4_setDateField_271 : decode cX4_setDateField 271 = .ok (.ireturn, 1) := by decide +kernel
theorem dX4_setDateField_272 : decode cX4_setDateField 272 = .ok (.lload_n 2, 1) := by decide +kernel
theorem dX4_setDateField_273 : decode cX4_setDateField 273 = .ok (.lconst 1, 1) := by decide +kernel
theorem dX4_setDateField_274 : decode cX4_setDateField 274 = .ok (.lcmp, 1) := by decide +kernel
theorem dX4_setDateField_275 : decode cX4_setDateField 275 = .ok (.ifCond .lt 38, 3) := by decide +kernel
theorem dX4_setDateField_278 : decode cX4_setDateField 278 = .ok (.lload_n 2, 1) := by decide +kernel
theorem dX4_setDateField_279 : decode cX4_setDateField 279 = .ok (.ldc2_w 112, 3) := by decide +kernel
theorem dX4_setDateField_282 : decode cX4_setDateField 282 = .ok (.lcmp, 1) := by decide +kernel
theorem dX4_setDateField_283 : decode cX4_setDateField 283 = .ok (.ifCond .gt 30, 3) := by decide +kernel
theorem dX4_setDateField_286 : decode cX4_setDateField 286 = .ok (.aload_n 0, 1) := by decide +kernel
theorem dX4_setDateField_287 : decode cX4_setDateField 287 = .ok (.aload_n 0, 1) := by decide +kernel
theorem dX4_setDateField_288 : decode cX4_setDateField 288 = .ok (.invokevirtual 97, 3) := by decide +kernel
theorem dX4_setDateField_291 : decode cX4_setDateField 291 = .ok (.ldc2_w 114, 3) := by decide +kernel
theorem dX4_setDateField_294 : decode cX4_setDateField 294 = .ok (.lload_n 2, 1) := by decide +kernel
theorem dX4_setDateField_295 : decode cX4_setDateField 295 = .ok (.aload_n 0, 1) := by decide +kernel
theorem dX4_setDateField_296 : decode cX4_setDateField 296 = .ok (.invokevirtual 86, 3) := by decide +kernel
theorem dX4_setDateField_299 : decode cX4_setDateField 299 = .ok (.i2l, 1) := by decide +kernel
theorem dX4_setDateField_300 : decode cX4_setDateField 300 = .ok (.lsub, 1) := by decide +kernel
theorem dX4_setDateField_301 : decode cX4_setDateField 301 = .ok (.lmul, 1) := by decide +kernel
theorem dX4_setDateField_302 : decode cX4_setDateField 302 = .ok (.ladd, 1) := by decide +kernel
theorem dX4_setDateField_303 : decode cX4_setDateField 303 = .ok (.invokevirtual 103, 3) := by decide +kernel
theorem dX4_setDateField_306 : decode cX4_setDateField 306 = .ok (.ifCond .eq 7, 3) := by decide +kernel
theorem dX4_setDateField_309 : decode cX4_setDateField 309 = .ok (.iconst 1, 1) := by decide +kernel
theorem dX4_setDateField_310 : decode cX4_setDateField 310 = .ok (.goto 4, 3) := by decide +kernel
theorem dX4_setDateField_313 : decode cX4_setDateField 313 = .ok (.iconst 0, 1) := by decide +kernel
theorem dX4_setDateField_314 : decode cX4_setDateField 314 = .ok (.ireturn, 1) := by decide +kernel
theorem dX4_setDateField_315 : decode cX4_setDateField 315 = .ok (.aload_n 0, 1) := by decide +kernel
theorem dX4_setDateField_316 : decode cX4_setDateField 316 = .ok (.lload_n 2, 1) := by decide +kernel
theorem dX4_setDateField_317 : decode cX4_setDateField 317 = .ok (.invokevirtual 103, 3) := by decide +kernel
theorem dX4_setDateField_320 : decode cX4_setDateField 320 = .ok (.ireturn, 1) := by decide +kernel
theorem dX4_quarter_0 : decode cX4_quarter 0 = .ok (.aload_n 0, 1) := by decide +kernel
theorem dX4_quarter_1 : decode cX4_quarter 1 = .ok (.getfield 15, 3) := by decide +kernel
theorem dX4_quarter_4 : decode cX4_quarter 4 = .ok (.iconst 2, 1) := by decide +kernel
theorem dX4_quarter_5 : decode cX4_quarter 5 = .ok (.iadd, 1) := by decide +kernel
theorem dX4_quarter_6 : decode cX4_quarter 6 = .ok (.iconst 3, 1) := by decide +kernel
theorem dX4_quarter_7 : decode cX4_quarter 7 = .ok (.idiv, 1) := by decide +kernel
theorem dX4_quarter_8 : decode cX4_quarter 8 = .ok (.ireturn, 1) := by decide +kernel
theorem dX4_timeField_0 : decode cX4_timeField 0 = .ok (.iload_n 1, 1) := by decide +kernel
theorem dX4_timeField_1 : decode cX4_timeField 1 = .ok (.tableswitch 88 6 10 #[35, 46, 57, 68, 77], 35) := by decide +kernel
theorem dX4_timeField_36 : decode cX4_timeField 36 = .ok (.aload_n 0, 1) := by decide +kernel
theorem dX4_timeField_37 : decode cX4_timeField 37 = .ok (.ldc2_w 116, 3) := by decide +kernel
theorem dX4_timeField_40 : decode cX4_timeField 40 = .ok (.ldc2_w 118, 3) := by decide +kernel
theorem dX4_timeField_43 : decode cX4_timeField 43 = .ok (.invokevirtual 120, 3) := by decide +kernel
theorem dX4_timeField_46 : decode cX4_timeField 46 = .ok (.lreturn, 1) := by decide +kernel
theorem dX4_timeField_47 : decode cX4_timeField 47 = .ok (.aload_n 0, 1) := by decide +kernel
theorem dX4_timeField_48 : decode cX4_timeField 48 = .ok (.ldc2_w 123, 3) := by decide +kernel
theorem dX4_timeField_51 : decode cX4_timeField 51 = .ok (.ldc2_w 125, 3) := by decide +kernel
theorem dX4_timeField_54 : decode cX4_timeField 54 = .ok (.invokevirtual 120, 3) := by decide +kernel
theorem dX4_timeField_57 : decode cX4_timeField 57 = .ok (.lreturn, 1) := by decide +kernel
theorem dX4_timeField_58 : decode cX4_timeField 58 = .ok (.aload_n 0, 1) := by decide +kernel
theorem dX4_timeField_59 : decode cX4_timeField 59 = .ok (.ldc2_w 36, 3) := by decide +kernel
theorem dX4_timeField_62 : decode cX4_timeField 62 = .ok (.ldc2_w 125, 3) := by decide +kernel
theorem dX4_timeField_65 : decode cX4_timeField 65 = .ok (.invokevirtual 120, 3) := by decide +kernel
theorem dX4_timeField_68 : decode cX4_timeField 68 = .ok (.lreturn, 1) := by decide +kernel
theorem dX4_timeField_69 : decode cX4_timeField 69 = .ok (.aload_n 0, 1) := by decide +kernel
theorem dX4_timeField_70 : decode cX4_timeField 70 = .ok (.lconst 1, 1) := by decide +kernel
theorem dX4_timeField_71 : decode cX4_timeField 71 = .ok (.ldc2_w 36, 3) := by decide +kernel
theorem dX4_timeField_74 : decode cX4_timeField 74 = .ok (.invokevirtual 120, 3) := by decide +kernel
theorem dX4_timeField_77 : decode cX4_timeField 77 = .ok (.lreturn, 1) := by decide +kernel
theorem dX4_timeField_78 : decode cX4_timeField 78 = .ok (.aload_n 0, 1) := by decide +kernel
theorem dX4_timeField_79 : decode cX4_timeField 79 = .ok (.ldc2_w 36, 3) := by decide +kernel
theorem dX4_timeField_82 : decode cX4_timeField 82 = .ok (.ldc2_w 34, 3) := by decide +kernel
theorem dX4_timeField_85 : decode cX4_timeField 85 = .ok (.invokevirtual 120, 3) := by decide +kernel
theorem dX4_timeField_88 : decode cX4_timeField 88 = .ok (.lreturn, 1) := by decide +kernel
theorem dX4_timeField_89 : decode cX4_timeField 89 = .ok (.aload_n 0, 1) := by decide +kernel
theorem dX4_timeField_90 : decode cX4_timeField 90 = .ok (.getfield 21, 3) := by decide +kernel
theorem dX4_timeField_93 : decode cX4_timeField 93 = .ok (.lreturn, 1) := by decide +kernel
theorem dX4_setTimeField_0 : decode cX4_setTimeField 0 = .ok (.iload_n 1, 1) := by decide +kernel
theorem dX4_setTimeField_1 : decode cX4_setTimeField 1 = .ok (.tableswitch 93 6 10 #[35, 47, 59, 71, 81], 35) := by decide +kernel
theorem dX4_setTimeField_36 : decode cX4_setTimeField 36 = .ok (.aload_n 0, 1) := by decide +kernel
theorem dX4_setTimeField_37 : decode cX4_setTimeField 37 = .ok (.ldc2_w 116, 3) := by decide +kernel
theorem dX4_setTimeField_40 : decode cX4_setTimeField 40 = .ok (.ldc2_w 118, 3) := by decide +kernel
theorem dX4_setTimeField_43 : decode cX4_setTimeField 43 = .ok (.lload_n 2, 1) := by decide +kernel
theorem dX4_setTimeField_44 : decode cX4_setTimeField 44 = .ok (.invokevirtual 127, 3) := by decide +kernel
theorem dX4_setTimeField_47 : decode cX4_setTimeField 47 = .ok (.ireturn, 1) := by decide +kernel
theorem dX4_setTimeField_48 : decode cX4_setTimeField 48 = .ok (.aload_n 0, 1) := by decide +kernel
theorem dX4_setTimeField_49 : decode cX4_setTimeField 49 = .ok (.ldc2_w 123, 3) := by decide +kernel
theorem dX4_setTimeField_52 : decode cX4_setTimeField 52 = .ok (.ldc2_w 125, 3) := by decide +kernel
theorem dX4_setTimeField_55 : decode cX4_setTimeField 55 = .ok (.lload_n 2, 1) := by decide +kernel
theorem dX4_setTimeField_56 : decode cX4_setTimeField 56 = .ok (.invokevirtual 127, 3) := by decide +kernel
theorem dX4_setTimeField_59 : decode cX4_setTimeField 59 = .ok (.ireturn, 1) := by decide +kernel
theorem dX4_setTimeField_60 : decode cX4_setTimeField 60 = .ok (.aload_n 0, 1) := by decide +kernel
theorem dX4_setTimeField_61 : decode cX4_setTimeField 61 = .ok (.ldc2_w 36, 3) := by decide +kernel
theorem dX4_setTimeField_64 : decode cX4_setTimeField 64 = .ok (.ldc2_w 125, 3) := by decide +kernel
theorem dX4_setTimeField_67 : decode cX4_setTimeField 67 = .ok (.lload_n 2, 1) := by decide +kernel
theorem dX4_setTimeField_68 : decode cX4_setTimeField 68 = .ok (.invokevirtual 127, 3) := by decide +kernel
theorem dX4_setTimeField_71 : decode cX4_setTimeField 71 = .ok (.ireturn, 1) := by decide +kernel
theorem dX4_setTimeField_72 : decode cX4_setTimeField 72 = .ok (.aload_n 0, 1) := by decide +kernel
theorem dX4_setTimeField_73 : decode cX4_setTimeField 73 = .ok (.lconst 1, 1) := by decide +kernel
theorem dX4_setTimeField_74 : decode cX4_setTimeField 74 = .ok (.ldc2_w 36, 3) := by decide +kernel
theorem dX4_setTimeField_77 : decode cX4_setTimeField 77 = .ok (.lload_n 2, 1) := by decide +kernel
theorem dX4_setTimeField_78 : decode cX4_setTimeField 78 = .ok (.invokevirtual 127, 3) := by decide +kernel
theorem dX4_setTimeField_81 : decode cX4_setTimeField 81 = .ok (.ireturn, 1) := by decide +kernel
theorem dX4_setTimeField_82 : decode cX4_setTimeField 82 = .ok (.aload_n 0, 1) := by decide +kernel
theorem dX4_setTimeField_83 : decode cX4_setTimeField 83 = .ok (.ldc2_w 36, 3) := by decide +kernel
theorem dX4_setTimeField_86 : decode cX4_setTimeField 86 = .ok (.ldc2_w 34, 3) := by decide +kernel
theorem dX4_setTimeField_89 : decode cX4_setTimeField 89 = .ok (.lload_n 2, 1) := by decide +kernel
theorem dX4_setTimeField_90 : decode cX4_setTimeField 90 = .ok (.invokevirtual 127, 3) := by decide +kernel
theorem dX4_setTimeField_93 : decode cX4_setTimeField 93 = .ok (.ireturn, 1) := by decide +kernel
theorem dX4_setTimeField_94 : decode cX4_setTimeField 94 = .ok (.aload_n 0, 1) := by decide +kernel
theorem dX4_setTimeField_95 : decode cX4_setTimeField 95 = .ok (.lconst 1, 1) := by decide +kernel
theorem dX4_setTimeField_96 : decode cX4_setTimeField 96 = .ok (.ldc2_w 77, 3) := by decide +kernel
theorem dX4_setTimeField_99 : decode cX4_setTimeField 99 = .ok (.lload_n 2, 1) := by decide +kernel
theorem dX4_setTimeField_100 : decode cX4_setTimeField 100 = .ok (.invokevirtual 127, 3) := by decide +kernel
theorem dX4_setTimeField_103 : decode cX4_setTimeField 103 = .ok (.ireturn, 1) := by decide +kernel
theorem dX4_part_0 : decode cX4_part 0 = .ok (.lload_n 1, 1) := by decide +kernel
theorem dX4_part_1 : decode cX4_part 1 = .ok (.lconst 0, 1) := by decide +kernel
theorem dX4_part_2 : decode cX4_part 2 = .ok (.lcmp, 1) := by decide +kernel
theorem dX4_part_3 : decode cX4_part 3 = .ok (.ifCond .le 20, 3) := by decide +kernel
theorem dX4_part_6 : decode cX4_part 6 = .ok (.lload_n 3, 1) := by decide +kernel
theorem dX4_part_7 : decode cX4_part 7 = .ok (.lconst 0, 1) := by decide +kernel
theorem dX4_part_8 : decode cX4_part 8 = .ok (.lcmp, 1) := by decide +kernel
theorem dX4_part_9 : decode cX4_part 9 = .ok (.ifCond .le 14, 3) := by decide +kernel
theorem dX4_part_12 : decode cX4_part 12 = .ok (.aload_n 0, 1) := by decide +kernel
theorem dX4_part_13 : decode cX4_part 13 = .ok (.getfield 21, 3) := by decide +kernel
theorem dX4_part_16 : decode cX4_part 16 = .ok (.lload_n 1, 1) := by decide +kernel
theorem dX4_part_17 : decode cX4_part 17 = .ok (.ldiv, 1) := by decide +kernel
theorem dX4_part_18 : decode cX4_part 18 = .ok (.lload_n 3, 1) := by decide +kernel
theorem dX4_part_19 : decode cX4_part 19 = .ok (.lrem, 1) := by decide +kernel
theorem dX4_part_20 : decode cX4_part 20 = .ok (.goto 4, 3) := by decide +kernel
theorem dX4_part_23 : decode cX4_part 23 = .ok (.lconst 0, 1) := by decide +kernel
theorem dX4_part_24 : decode cX4_part 24 = .ok (.lreturn, 1) := by decide +kernel
theorem dX4_setPart_0 : decode cX4_setPart 0 = .ok (.lload 5, 2) := by decide +kernel
theorem dX4_setPart_2 : decode cX4_setPart 2 = .ok (.lconst 0, 1) := by decide +kernel
theorem dX4_setPart_3 : decode cX4_setPart 3 = .ok (.lcmp, 1) := by decide +kernel
theorem dX4_setPart_4 : decode cX4_setPart 4 = .ok (.ifCond .lt 10, 3) := by decide +kernel
theorem dX4_setPart_7 : decode cX4_setPart 7 = .ok (.lload 5, 2) := by decide +kernel
theorem dX4_setPart_9 : decode cX4_setPart 9 = .ok (.lload_n 3, 1) := by decide +kernel
theorem dX4_setPart_10 : decode cX4_setPart 10 = .ok (.lcmp, 1) := by decide +kernel
theorem dX4_setPart_11 : decode cX4_setPart 11 = .ok (.ifCond .lt 5, 3) := by decide +kernel
theorem dX4_setPart_14 : decode cX4_setPart 14 = .ok (.iconst 0, 1) := by decide +kernel
theorem dX4_setPart_15 : decode cX4_setPart 15 = .ok (.ireturn, 1) := by decide +kernel
theorem dX4_setPart_16 : decode cX4_setPart 16 = .ok (.aload_n 0, 1) := by decide +kernel
theorem dX4_setPart_17 : decode cX4_setPart 17 = .ok (.dup, 1) := by decide +kernel
theorem dX4_setPart_18 : decode cX4_setPart 18 = .ok (.getfield 21, 3) := by decide +kernel
theorem dX4_setPart_21 : decode cX4_setPart 21 = .ok (.lload 5, 2) := by decide +kernel
theorem dX4_setPart_23 : decode cX4_setPart 23 = .ok (.aload_n 0, 1) := by decide +kernel
theorem dX4_setPart_24 : decode cX4_setPart 24 = .ok (.lload_n 1, 1) := by decide +kernel
theorem dX4_setPart_25 : decode cX4_setPart 25 = .ok (.lload_n 3, 1) := by decide +kernel
theorem dX4_setPart_26 : decode cX4_setPart 26 = .ok (.invokevirtual 120, 3) := by decide +kernel
theorem dX4_setPart_29 : decode cX4_setPart 29 = .ok (.lsub, 1) := by decide +kernel
theorem dX4_setPart_30 : decode cX4_setPart 30 = .ok (.lload_n 1, 1) := by decide +kernel
theorem dX4_setPart_31 : decode cX4_setPart 31 = .ok (.lmul, 1) := by decide +kernel
theorem dX4_setPart_32 : decode cX4_setPart 32 = .ok (.ladd, 1) := by decide +kernel
theorem dX4_setPart_33 : decode cX4_setPart 33 = .ok (.putfield 21, 3) := by decide +kernel
theorem dX4_setPart_36 : decode cX4_setPart 36 = .ok (.iconst 1, 1) := by decide +kernel
theorem dX4_setPart_37 : decode cX4_setPart 37 = .ok (.ireturn, 1) := by decide +kernel
theorem dX4_adjustedDay_0 : decode cX4_adjustedDay 0 = .ok (.aload_n 0, 1) := by decide +kernel
theorem dX4_adjustedDay_1 : decode cX4_adjustedDay 1 = .ok (.invokevirtual 31, 3) := by decide +kernel
theorem dX4_adjustedDay_4 : decode cX4_adjustedDay 4 = .ok (.lstore_n 3, 1) := by decide +kernel
theorem dX4_adjustedDay_5 : decode cX4_adjustedDay 5 = .ok (.iload_n 1, 1) := by decide +kernel
theorem dX4_adjustedDay_6 : decode cX4_adjustedDay 6 = .ok (.tableswitch 76 0 4 #[34, 42, 48, 56, 62], 34) := by decide +kernel
theorem dX4_adjustedDay_40 : decode cX4_adjustedDay 40 = .ok (.lload_n 3, 1) := by decide +kernel
theorem dX4_adjustedDay_41 : decode cX4_adjustedDay 41 = .ok (.lconst 1, 1) := by decide +kernel
theorem dX4_adjustedDay_42 : decode cX4_adjustedDay 42 = .ok (.ladd, 1) := by decide +kernel
theorem dX4_adjustedDay_43 : decode cX4_adjustedDay 43 = .ok (.iload_n 2, 1) := by decide +kernel
theorem dX4_adjustedDay_44 : decode cX4_adjustedDay 44 = .ok (.invokestatic 131, 3) := by decide +kernel
theorem dX4_adjustedDay_47 : decode cX4_adjustedDay 47 = .ok (.lreturn, 1) := by decide +kernel
theorem dX4_adjustedDay_48 : decode cX4_adjustedDay 48 = .ok (.lload_n 3, 1) := by decide +kernel
theorem dX4_adjustedDay_49 : decode cX4_adjustedDay 49 = .ok (.iload_n 2, 1) := by decide +kernel
theorem dX4_adjustedDay_50 : decode cX4_adjustedDay 50 = .ok (.invokestatic 131, 3) := by decide +kernel
theorem dX4_adjustedDay_53 : decode cX4_adjustedDay 53 = .ok (.lreturn, 1) := by decide +kernel
theorem dX4_adjustedDay_54 : decode cX4_adjustedDay 54 = .ok (.lload_n 3, 1) := by decide +kernel
theorem dX4_adjustedDay_55 : decode cX4_adjustedDay 55 = .ok (.lconst 1, 1) := by decide +kernel
theorem dX4_adjustedDay_56 : decode cX4_adjustedDay 56 = .ok (.lsub, 1) := by decide +kernel
theorem dX4_adjustedDay_57 : decode cX4_adjustedDay 57 = .ok (.iload_n 2, 1) := by decide +kernel
theorem dX4_adjustedDay_58 : decode cX4_adjustedDay 58 = .ok (.invokestatic 134, 3) := by decide +kernel
theorem dX4_adjustedDay_61 : decode cX4_adjustedDay 61 = .ok (.lreturn, 1) := by decide +kernel
theorem dX4_adjustedDay_62 : decode cX4_adjustedDay 62 = .ok (.lload_n 3, 1) := by decide +kernel
theorem dX4_adjustedDay_63 : decode cX4_adjustedDay 63 = .ok (.iload_n 2, 1) := by decide +kernel
theorem dX4_adjustedDay_64 : decode cX4_adjustedDay 64 = .ok (.invokestatic 134, 3) := by decide +kernel
theorem dX4_adjustedDay_67 : decode cX4_adjustedDay 67 = .ok (.lreturn, 1) := by decide +kernel
theorem dX4_adjustedDay_68 : decode cX4_adjustedDay 68 = .ok (.lload_n 3, 1) := by decide +kernel
theorem dX4_adjustedDay_69 : decode cX4_adjustedDay 69 = .ok (.aload_n 0, 1) := by decide +kernel
theorem dX4_adjustedDay_70 : decode cX4_adjustedDay 70 = .ok (.getfield 18, 3) := by decide +kernel
theorem dX4_adjustedDay_73 : decode cX4_adjustedDay 73 = .ok (.i2l, 1) := by decide +kernel
theorem dX4_adjustedDay_74 : decode cX4_adjustedDay 74 = .ok (.lsub, 1) := by decide +kernel
theorem dX4_adjustedDay_75 : decode cX4_adjustedDay 75 = .ok (.lconst 1, 1) := by decide +kernel
theorem dX4_adjustedDay_76 : decode cX4_adjustedDay 76 = .ok (.ladd, 1) := by decide +kernel
theorem dX4_adjustedDay_77 : decode cX4_adjustedDay 77 = .ok (.iload_n 2, 1) := by decide +kernel
theorem dX4_adjustedDay_78 : decode cX4_adjustedDay 78 = .ok (.invokestatic 131, 3) := by decide +kernel
theorem dX4_adjustedDay_81 : decode cX4_adjustedDay 81 = .ok (.lreturn, 1) := by decide +kernel
theorem dX4_adjustedDay_82 : decode cX4_adjustedDay 82 = .ok (.lload_n 3, 1) := by decide +kernel
theorem dX4_adjustedDay_83 : decode cX4_adjustedDay 83 = .ok (.aload_n 0, 1) := by decide +kernel
theorem dX4_adjustedDay_84 : decode cX4_adjustedDay 84 = .ok (.getfield 18, 3) := by decide +kernel
theorem dX4_adjustedDay_87 : decode cX4_adjustedDay 87 = .ok (.i2l, 1) := by decide +kernel
theorem dX4_adjustedDay_88 : decode cX4_adjustedDay 88 = .ok (.lsub, 1) := by decide +kernel
theorem dX4_adjustedDay_89 : decode cX4_adjustedDay 89 = .ok (.aload_n 0, 1) := by decide +kernel
theorem dX4_adjustedDay_90 : decode cX4_adjustedDay 90 = .ok (.getfield 9, 3) := by decide +kernel
theorem dX4_adjustedDay_93 : decode cX4_adjustedDay 93 = .ok (.aload_n 0, 1) := by decide +kernel
theorem dX4_adjustedDay_94 : decode cX4_adjustedDay 94 = .ok (.getfield 15, 3) := by decide +kernel
theorem dX4_adjustedDay_97 : decode cX4_adjustedDay 97 = .ok (.invokestatic 48, 3) := by decide +kernel
theorem dX4_adjustedDay_100 : decode cX4_adjustedDay 100 = .ok (.i2l, 1) := by decide +kernel
theorem dX4_adjustedDay_101 : decode cX4_adjustedDay 101 = .ok (.ladd, 1) := by decide +kernel
theorem dX4_adjustedDay_102 : decode cX4_adjustedDay 102 = .ok (.iload_n 2, 1) := by decide +kernel
theorem dX4_adjustedDay_103 : decode cX4_adjustedDay 103 = .ok (.invokestatic 134, 3) := by decide +kernel
theorem dX4_adjustedDay_106 : decode cX4_adjustedDay 106 = .ok (.lreturn, 1) := by decide +kernel
theorem dX4_orderAgainst_0 : decode cX4_orderAgainst 0 = .ok (.aload_n 0, 1) := by decide +kernel
theorem dX4_orderAgainst_1 : decode cX4_orderAgainst 1 = .ok (.invokevirtual 31, 3) := by decide +kernel
theorem dX4_orderAgainst_4 : decode cX4_orderAgainst 4 = .ok (.aload_n 1, 1) := by decide +kernel
theorem dX4_orderAgainst_5 : decode cX4_orderAgainst 5 = .ok (.invokevirtual 31, 3) := by decide +kernel
theorem dX4_orderAgainst_8 : decode cX4_orderAgainst 8 = .ok (.invokestatic 137, 3) := by decide +kernel
theorem dX4_orderAgainst_11 : decode cX4_orderAgainst 11 = .ok (.istore_n 2, 1) := by decide +kernel
theorem dX4_orderAgainst_12 : decode cX4_orderAgainst 12 = .ok (.iload_n 2, 1) := by decide +kernel
theorem dX4_orderAgainst_13 : decode cX4_orderAgainst 13 = .ok (.ifCond .eq 7, 3) := by decide +kernel
theorem dX4_orderAgainst_16 : decode cX4_orderAgainst 16 = .ok (.iload_n 2, 1) := by decide +kernel
theorem dX4_orderAgainst_17 : decode cX4_orderAgainst 17 = .ok (.goto 14, 3) := by decide +kernel
theorem dX4_orderAgainst_20 : decode cX4_orderAgainst 20 = .ok (.aload_n 0, 1) := by decide +kernel
theorem dX4_orderAgainst_21 : decode cX4_orderAgainst 21 = .ok (.getfield 21, 3) := by decide +kernel
theorem dX4_orderAgainst_24 : decode cX4_orderAgainst 24 = .ok (.aload_n 1, 1) := by decide +kernel
theorem dX4_orderAgainst_25 : decode cX4_orderAgainst 25 = .ok (.getfield 21, 3) := by decide +kernel
theorem dX4_orderAgainst_28 : decode cX4_orderAgainst 28 = .ok (.invokestatic 137, 3) := by decide +kernel
theorem dX4_orderAgainst_31 : decode cX4_orderAgainst 31 = .ok (.ireturn, 1) := by decide +kernel
theorem dX4_wholeDaysUntil_0 : decode cX4_wholeDaysUntil 0 = .ok (.aload_n 1, 1) := by decide +kernel
theorem dX4_wholeDaysUntil_1 : decode cX4_wholeDaysUntil 1 = .ok (.invokevirtual 31, 3) := by decide +kernel
theorem dX4_wholeDaysUntil_4 : decode cX4_wholeDaysUntil 4 = .ok (.aload_n 0, 1) := by decide +kernel
theorem dX4_wholeDaysUntil_5 : decode cX4_wholeDaysUntil 5 = .ok (.invokevirtual 31, 3) := by decide +kernel
theorem dX4_wholeDaysUntil_8 : decode cX4_wholeDaysUntil 8 = .ok (.lsub, 1) := by decide +kernel
theorem dX4_wholeDaysUntil_9 : decode cX4_wholeDaysUntil 9 = .ok (.lstore_n 2, 1) := by decide +kernel
theorem dX4_wholeDaysUntil_10 : decode cX4_wholeDaysUntil 10 = .ok (.lload_n 2, 1) := by decide +kernel
theorem dX4_wholeDaysUntil_11 : decode cX4_wholeDaysUntil 11 = .ok (.lconst 0, 1) := by decide +kernel
theorem dX4_wholeDaysUntil_12 : decode cX4_wholeDaysUntil 12 = .ok (.lcmp, 1) := by decide +kernel
theorem dX4_wholeDaysUntil_13 : decode cX4_wholeDaysUntil 13 = .ok (.ifCond .le 19, 3) := by decide +kernel
theorem dX4_wholeDaysUntil_16 : decode cX4_wholeDaysUntil 16 = .ok (.aload_n 1, 1) := by decide +kernel
theorem dX4_wholeDaysUntil_17 : decode cX4_wholeDaysUntil 17 = .ok (.getfield 21, 3) := by decide +kernel
theorem dX4_wholeDaysUntil_20 : decode cX4_wholeDaysUntil 20 = .ok (.aload_n 0, 1) := by decide +kernel
theorem dX4_wholeDaysUntil_21 : decode cX4_wholeDaysUntil 21 = .ok (.getfield 21, 3) := by decide +kernel
theorem dX4_wholeDaysUntil_24 : decode cX4_wholeDaysUntil 24 = .ok (.lcmp, 1) := by decide +kernel
theorem dX4_wholeDaysUntil_25 : decode cX4_wholeDaysUntil 25 = .ok (.ifCond .ge 7, 3) := by decide +kernel
theorem dX4_wholeDaysUntil_28 : decode cX4_wholeDaysUntil 28 = .ok (.lload_n 2, 1) := by decide +kernel
theorem dX4_wholeDaysUntil_29 : decode cX4_wholeDaysUntil 29 = .ok (.lconst 1, 1) := by decide +kernel
theorem dX4_wholeDaysUntil_30 : decode cX4_wholeDaysUntil 30 = .ok (.lsub, 1) := by decide +kernel
theorem dX4_wholeDaysUntil_31 : decode cX4_wholeDaysUntil 31 = .ok (.lreturn, 1) := by decide +kernel
theorem dX4_wholeDaysUntil_32 : decode cX4_wholeDaysUntil 32 = .ok (.lload_n 2, 1) := by decide +kernel
theorem dX4_wholeDaysUntil_33 : decode cX4_wholeDaysUntil 33 = .ok (.lconst 0, 1) := by decide +kernel
theorem dX4_wholeDaysUntil_34 : decode cX4_wholeDaysUntil 34 = .ok (.lcmp, 1) := by decide +kernel
theorem dX4_wholeDaysUntil_35 : decode cX4_wholeDaysUntil 35 = .ok (.ifCond .ge 21, 3) := by decide +kernel
theorem dX4_wholeDaysUntil_38 : decode cX4_wholeDaysUntil 38 = .ok (.aload_n 1, 1) := by decide +kernel
theorem dX4_wholeDaysUntil_39 : decode cX4_wholeDaysUntil 39 = .ok (.getfield 21, 3) := by decide +kernel
theorem dX4_wholeDaysUntil_42 : decode cX4_wholeDaysUntil 42 = .ok (.aload_n 0, 1) := by decide +kernel
theorem dX4_wholeDaysUntil_43 : decode cX4_wholeDaysUntil 43 = .ok (.getfield 21, 3) := by decide +kernel
theorem dX4_wholeDaysUntil_46 : decode cX4_wholeDaysUntil 46 = .ok (.lcmp, 1) := by decide +kernel
theorem dX4_wholeDaysUntil_47 : decode cX4_wholeDaysUntil 47 = .ok (.ifCond .le 9, 3) := by decide +kernel
theorem dX4_wholeDaysUntil_50 : decode cX4_wholeDaysUntil 50 = .ok (.lload_n 2, 1) := by decide +kernel
theorem dX4_wholeDaysUntil_51 : decode cX4_wholeDaysUntil 51 = .ok (.lconst 1, 1) := by decide +kernel
theorem dX4_wholeDaysUntil_52 : decode cX4_wholeDaysUntil 52 = .ok (.ladd, 1) := by decide +kernel
theorem dX4_wholeDaysUntil_53 : decode cX4_wholeDaysUntil 53 = .ok (.goto 4, 3) := by decide +kernel
theorem dX4_wholeDaysUntil_56 : decode cX4_wholeDaysUntil 56 = .ok (.lload_n 2, 1) := by decide +kernel
theorem dX4_wholeDaysUntil_57 : decode cX4_wholeDaysUntil 57 = .ok (.lreturn, 1) := by decide +kernel
theorem dX4_restUntil_0 : decode cX4_restUntil 0 = .ok (.aload_n 1, 1) := by decide +kernel
theorem dX4_restUntil_1 : decode cX4_restUntil 1 = .ok (.invokevirtual 31, 3) := by decide +kernel
theorem dX4_restUntil_4 : decode cX4_restUntil 4 = .ok (.aload_n 0, 1) := by decide +kernel
theorem dX4_restUntil_5 : decode cX4_restUntil 5 = .ok (.invokevirtual 31, 3) := by decide +kernel
theorem dX4_restUntil_8 : decode cX4_restUntil 8 = .ok (.lsub, 1) := by decide +kernel
theorem dX4_restUntil_9 : decode cX4_restUntil 9 = .ok (.aload_n 0, 1) := by decide +kernel
theorem dX4_restUntil_10 : decode cX4_restUntil 10 = .ok (.aload_n 1, 1) := by decide +kernel
theorem dX4_restUntil_11 : decode cX4_restUntil 11 = .ok (.invokevirtual 143, 3) := by decide +kernel
theorem dX4_restUntil_14 : decode cX4_restUntil 14 = .ok (.lsub, 1) := by decide +kernel
theorem dX4_restUntil_15 : decode cX4_restUntil 15 = .ok (.lstore_n 2, 1) := by decide +kernel
theorem dX4_restUntil_16 : decode cX4_restUntil 16 = .ok (.lload_n 2, 1) := by decide +kernel
theorem dX4_restUntil_17 : decode cX4_restUntil 17 = .ok (.ldc2_w 77, 3) := by decide +kernel
theorem dX4_restUntil_20 : decode cX4_restUntil 20 = .ok (.lmul, 1) := by decide +kernel
theorem dX4_restUntil_21 : decode cX4_restUntil 21 = .ok (.aload_n 1, 1) := by decide +kernel
theorem dX4_restUntil_22 : decode cX4_restUntil 22 = .ok (.getfield 21, 3) := by decide +kernel
