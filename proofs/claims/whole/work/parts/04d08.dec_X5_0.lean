theorem dX5_init_0 : decode cX5_init 0 = .ok (.aload_n 0, 1) := by decide +kernel
theorem dX5_init_1 : decode cX5_init 1 = .ok (.invokespecial 3, 3) := by decide +kernel
theorem dX5_init_4 : decode cX5_init 4 = .ok (.aload_n 0, 1) := by decide +kernel
theorem dX5_init_5 : decode cX5_init 5 = .ok (.bipush 8, 2) := by decide +kernel
theorem dX5_init_7 : decode cX5_init 7 = .ok (.newarray .long, 2) := by decide +kernel
theorem dX5_init_9 : decode cX5_init 9 = .ok (.putfield 9, 3) := by decide +kernel
theorem dX5_init_12 : decode cX5_init 12 = .ok (.aload_n 0, 1) := by decide +kernel
theorem dX5_init_13 : decode cX5_init 13 = .ok (.bipush 8, 2) := by decide +kernel
theorem dX5_init_15 : decode cX5_init 15 = .ok (.newarray .int, 2) := by decide +kernel
theorem dX5_init_17 : decode cX5_init 17 = .ok (.putfield 15, 3) := by decide +kernel
theorem dX5_init_20 : decode cX5_init 20 = .ok (.aload_n 0, 1) := by decide +kernel
theorem dX5_init_21 : decode cX5_init 21 = .ok (.iconst 2, 1) := by decide +kernel
theorem dX5_init_22 : decode cX5_init 22 = .ok (.anewarray 19, 3) := by decide +kernel
theorem dX5_init_25 : decode cX5_init 25 = .ok (.putfield 21, 3) := by decide +kernel
theorem dX5_init_28 : decode cX5_init 28 = .ok (.iconst 0, 1) := by decide +kernel
theorem dX5_init_29 : decode cX5_init 29 = .ok (.istore_n 1, 1) := by decide +kernel
theorem dX5_init_30 : decode cX5_init 30 = .ok (.iload_n 1, 1) := by decide +kernel
theorem dX5_init_31 : decode cX5_init 31 = .ok (.iconst 2, 1) := by decide +kernel
theorem dX5_init_32 : decode cX5_init 32 = .ok (.if_icmp .ge 22, 3) := by decide +kernel
theorem dX5_init_35 : decode cX5_init 35 = .ok (.aload_n 0, 1) := by decide +kernel
theorem dX5_init_36 : decode cX5_init 36 = .ok (.getfield 21, 3) := by decide +kernel
theorem dX5_init_39 : decode cX5_init 39 = .ok (.iload_n 1, 1) := by decide +kernel
theorem dX5_init_40 : decode cX5_init 40 = .ok (.new 19, 3) := by decide +kernel
theorem dX5_init_43 : decode cX5_init 43 = .ok (.dup, 1) := by decide +kernel
theorem dX5_init_44 : decode cX5_init 44 = .ok (.invokespecial 25, 3) := by decide +kernel
theorem dX5_init_47 : decode cX5_init 47 = .ok (.aastore, 1) := by decide +kernel
theorem dX5_init_48 : decode cX5_init 48 = .ok (.iinc 1 1, 3) := by decide +kernel
theorem dX5_init_51 : decode cX5_init 51 = .ok (.goto (-21), 3) := by decide +kernel
theorem dX5_init_54 : decode cX5_init 54 = .ok (.return_, 1) := by decide +kernel
theorem dX5_startWith_0 : decode cX5_startWith 0 = .ok (.aload_n 0, 1) := by decide +kernel
theorem dX5_startWith_1 : decode cX5_startWith 1 = .ok (.iload_n 1, 1) := by decide +kernel
theorem dX5_startWith_2 : decode cX5_startWith 2 = .ok (.putfield 26, 3) := by decide +kernel
theorem dX5_startWith_5 : decode cX5_startWith 5 = .ok (.aload_n 0, 1) := by decide +kernel
theorem dX5_startWith_6 : decode cX5_startWith 6 = .ok (.iconst 0, 1) := by decide +kernel
theorem dX5_startWith_7 : decode cX5_startWith 7 = .ok (.putfield 30, 3) := by decide +kernel
theorem dX5_startWith_10 : decode cX5_startWith 10 = .ok (.aload_n 0, 1) := by decide +kernel
theorem dX5_startWith_11 : decode cX5_startWith 11 = .ok (.iconst 0, 1) := by decide +kernel
theorem dX5_startWith_12 : decode cX5_startWith 12 = .ok (.putfield 33, 3) := by decide +kernel
theorem dX5_startWith_15 : decode cX5_startWith 15 = .ok (.return_, 1) := by decide +kernel
theorem dX5_addChange_0 : decode cX5_addChange 0 = .ok (.aload_n 0, 1) := by decide +kernel
theorem dX5_addChange_1 : decode cX5_addChange 1 = .ok (.getfield 33, 3) := by decide +kernel
theorem dX5_addChange_4 : decode cX5_addChange 4 = .ok (.ifCond .gt 21, 3) := by decide +kernel
theorem dX5_addChange_7 : decode cX5_addChange 7 = .ok (.aload_n 0, 1) := by decide +kernel
theorem dX5_addChange_8 : decode cX5_addChange 8 = .ok (.getfield 30, 3) := by decide +kernel
theorem dX5_addChange_11 : decode cX5_addChange 11 = .ok (.bipush 8, 2) := by decide +kernel
theorem dX5_addChange_13 : decode cX5_addChange 13 = .ok (.if_icmp .ge 12, 3) := by decide +kernel
theorem dX5_addChange_16 : decode cX5_addChange 16 = .ok (.lload_n 1, 1) := by decide +kernel
theorem dX5_addChange_17 : decode cX5_addChange 17 = .ok (.aload_n 0, 1) := by decide +kernel
theorem dX5_addChange_18 : decode cX5_addChange 18 = .ok (.invokevirtual 36, 3) := by decide +kernel
theorem dX5_addChange_21 : decode cX5_addChange 21 = .ok (.lcmp, 1) := by decide +kernel
theorem dX5_addChange_22 : decode cX5_addChange 22 = .ok (.ifCond .gt 5, 3) := by decide +kernel
theorem dX5_addChange_25 : decode cX5_addChange 25 = .ok (.iconst 0, 1) := by decide +kernel
theorem dX5_addChange_26 : decode cX5_addChange 26 = .ok (.ireturn, 1) := by decide +kernel
theorem dX5_addChange_27 : decode cX5_addChange 27 = .ok (.aload_n 0, 1) := by decide +kernel
theorem dX5_addChange_28 : decode cX5_addChange 28 = .ok (.getfield 9, 3) := by decide +kernel
theorem dX5_addChange_31 : decode cX5_addChange 31 = .ok (.aload_n 0, 1) := by decide +kernel
theorem dX5_addChange_32 : decode cX5_addChange 32 = .ok (.getfield 30, 3) := by decide +kernel
theorem dX5_addChange_35 : decode cX5_addChange 35 = .ok (.lload_n 1, 1) := by decide +kernel
theorem dX5_addChange_36 : decode cX5_addChange 36 = .ok (.lastore, 1) := by decide +kernel
theorem dX5_addChange_37 : decode cX5_addChange 37 = .ok (.aload_n 0, 1) := by decide +kernel
theorem dX5_addChange_38 : decode cX5_addChange 38 = .ok (.getfield 15, 3) := by decide +kernel
theorem dX5_addChange_41 : decode cX5_addChange 41 = .ok (.aload_n 0, 1) := by decide +kernel
theorem dX5_addChange_42 : decode cX5_addChange 42 = .ok (.getfield 30, 3) := by decide +kernel
theorem dX5_addChange_45 : decode cX5_addChange 45 = .ok (.iload_n 3, 1) := by decide +kernel
theorem dX5_addChange_46 : decode cX5_addChange 46 = .ok (.iastore, 1) := by decide +kernel
theorem dX5_addChange_47 : decode cX5_addChange 47 = .ok (.aload_n 0, 1) := by decide +kernel
theorem dX5_addChange_48 : decode cX5_addChange 48 = .ok (.dup, 1) := by decide +kernel
theorem dX5_addChange_49 : decode cX5_addChange 49 = .ok (.getfield 30, 3) := by decide +kernel
theorem dX5_addChange_52 : decode cX5_addChange 52 = .ok (.iconst 1, 1) := by decide +kernel
theorem dX5_addChange_53 : decode cX5_addChange 53 = .ok (.iadd, 1) := by decide +kernel
theorem dX5_addChange_54 : decode cX5_addChange 54 = .ok (.putfield 30, 3) := by decide +kernel
theorem dX5_addChange_57 : decode cX5_addChange 57 = .ok (.iconst 1, 1) := by decide +kernel
theorem dX5_addChange_58 : decode cX5_addChange 58 = .ok (.ireturn, 1) := by decide +kernel
theorem dX5_addRule_0 : decode cX5_addRule 0 = .ok (.aload_n 0, 1) := by decide +kernel
theorem dX5_addRule_1 : decode cX5_addRule 1 = .ok (.getfield 33, 3) := by decide +kernel
theorem dX5_addRule_4 : decode cX5_addRule 4 = .ok (.iconst 2, 1) := by decide +kernel
theorem dX5_addRule_5 : decode cX5_addRule 5 = .ok (.if_icmp .lt 5, 3) := by decide +kernel
theorem dX5_addRule_8 : decode cX5_addRule 8 = .ok (.iconst 0, 1) := by decide +kernel
theorem dX5_addRule_9 : decode cX5_addRule 9 = .ok (.ireturn, 1) := by decide +kernel
theorem dX5_addRule_10 : decode cX5_addRule 10 = .ok (.aload_n 0, 1) := by decide +kernel
theorem dX5_addRule_11 : decode cX5_addRule 11 = .ok (.getfield 21, 3) := by decide +kernel
theorem dX5_addRule_14 : decode cX5_addRule 14 = .ok (.aload_n 0, 1) := by decide +kernel
theorem dX5_addRule_15 : decode cX5_addRule 15 = .ok (.getfield 33, 3) := by decide +kernel
theorem dX5_addRule_18 : decode cX5_addRule 18 = .ok (.aaload, 1) := by decide +kernel
theorem dX5_addRule_19 : decode cX5_addRule 19 = .ok (.iload_n 1, 1) := by decide +kernel
theorem dX5_addRule_20 : decode cX5_addRule 20 = .ok (.iload_n 2, 1) := by decide +kernel
theorem dX5_addRule_21 : decode cX5_addRule 21 = .ok (.iload_n 3, 1) := by decide +kernel
theorem dX5_addRule_22 : decode cX5_addRule 22 = .ok (.iload 4, 2) := by decide +kernel
theorem dX5_addRule_24 : decode cX5_addRule 24 = .ok (.iload 5, 2) := by decide +kernel
theorem dX5_addRule_26 : decode cX5_addRule 26 = .ok (.invokevirtual 40, 3) := by decide +kernel
theorem dX5_addRule_29 : decode cX5_addRule 29 = .ok (.aload_n 0, 1) := by decide +kernel
theorem dX5_addRule_30 : decode cX5_addRule 30 = .ok (.dup, 1) := by decide +kernel
theorem dX5_addRule_31 : decode cX5_addRule 31 = .ok (.getfield 33, 3) := by decide +kernel
theorem dX5_addRule_34 : decode cX5_addRule 34 = .ok (.iconst 1, 1) := by decide +kernel
theorem dX5_addRule_35 : decode cX5_addRule 35 = .ok (.iadd, 1) := by decide +kernel
theorem dX5_addRule_36 : decode cX5_addRule 36 = .ok (.putfield 33, 3) := by decide +kernel
theorem dX5_addRule_39 : decode cX5_addRule 39 = .ok (.iconst 1, 1) := by decide +kernel
theorem dX5_addRule_40 : decode cX5_addRule 40 = .ok (.ireturn, 1) := by decide +kernel
theorem dX5_lastChange_0 : decode cX5_lastChange 0 = .ok (.aload_n 0, 1) := by decide +kernel
theorem dX5_lastChange_1 : decode cX5_lastChange 1 = .ok (.getfield 30, 3) := by decide +kernel
theorem dX5_lastChange_4 : decode cX5_lastChange 4 = .ok (.ifCond .le 17, 3) := by decide +kernel
theorem dX5_lastChange_7 : decode cX5_lastChange 7 = .ok (.aload_n 0, 1) := by decide +kernel
theorem dX5_lastChange_8 : decode cX5_lastChange 8 = .ok (.getfield 9, 3) := by decide +kernel
theorem dX5_lastChange_11 : decode cX5_lastChange 11 = .ok (.aload_n 0, 1) := by decide +kernel
theorem dX5_lastChange_12 : decode cX5_lastChange 12 = .ok (.getfield 30, 3) := by decide +kernel
theorem dX5_lastChange_15 : decode cX5_lastChange 15 = .ok (.iconst 1, 1) := by decide +kernel
theorem dX5_lastChange_16 : decode cX5_lastChange 16 = .ok (.isub, 1) := by decide +kernel
theorem dX5_lastChange_17 : decode cX5_lastChange 17 = .ok (.laload, 1) := by decide +kernel
theorem dX5_lastChange_18 : decode cX5_lastChange 18 = .ok (.goto 6, 3) := by decide +kernel
theorem dX5_lastChange_21 : decode cX5_lastChange 21 = .ok (.ldc2_w 44, 3) := by decide +kernel
theorem dX5_lastChange_24 : decode cX5_lastChange 24 = .ok (.lreturn, 1) := by decide +kernel
theorem dX5_offsetAt_0 : decode cX5_offsetAt 0 = .ok (.aload_n 0, 1) := by decide +kernel
theorem dX5_offsetAt_1 : decode cX5_offsetAt 1 = .ok (.lload_n 1, 1) := by decide +kernel
theorem dX5_offsetAt_2 : decode cX5_offsetAt 2 = .ok (.invokevirtual 46, 3) := by decide +kernel
theorem dX5_offsetAt_5 : decode cX5_offsetAt 5 = .ok (.istore_n 3, 1) := by decide +kernel
theorem dX5_offsetAt_6 : decode cX5_offsetAt 6 = .ok (.lload_n 1, 1) := by decide +kernel
theorem dX5_offsetAt_7 : decode cX5_offsetAt 7 = .ok (.ldc2_w 50, 3) := by decide +kernel
theorem dX5_offsetAt_10 : decode cX5_offsetAt 10 = .ok (.invokestatic 52, 3) := by decide +kernel
theorem dX5_offsetAt_13 : decode cX5_offsetAt 13 = .ok (.invokestatic 58, 3) := by decide +kernel
theorem dX5_offsetAt_16 : decode cX5_offsetAt 16 = .ok (.istore 4, 2) := by decide +kernel
theorem dX5_offsetAt_18 : decode cX5_offsetAt 18 = .ok (.aload_n 0, 1) := by decide +kernel
theorem dX5_offsetAt_19 : decode cX5_offsetAt 19 = .ok (.invokevirtual 36, 3) := by decide +kernel
theorem dX5_offsetAt_22 : decode cX5_offsetAt 22 = .ok (.lstore 5, 2) := by decide +kernel
theorem dX5_offsetAt_24 : decode cX5_offsetAt 24 = .ok (.iconst 0, 1) := by decide +kernel
theorem dX5_offsetAt_25 : decode cX5_offsetAt 25 = .ok (.istore 7, 2) := by decide +kernel
theorem dX5_offsetAt_27 : decode cX5_offsetAt 27 = .ok (.iload 7, 2) := by decide +kernel
theorem dX5_offsetAt_29 : decode cX5_offsetAt 29 = .ok (.aload_n 0, 1) := by decide +kernel
theorem dX5_offsetAt_30 : decode cX5_offsetAt 30 = .ok (.getfield 33, 3) := by decide +kernel
theorem dX5_offsetAt_33 : decode cX5_offsetAt 33 = .ok (.if_icmp .ge 94, 3) := by decide +kernel
theorem dX5_offsetAt_36 : decode cX5_offsetAt 36 = .ok (.iload 4, 2) := by decide +kernel
theorem dX5_offsetAt_38 : decode cX5_offsetAt 38 = .ok (.iconst 2, 1) := by decide +kernel
theorem dX5_offsetAt_39 : decode cX5_offsetAt 39 = .ok (.isub, 1) := by decide +kernel
theorem dX5_offsetAt_40 : decode cX5_offsetAt 40 = .ok (.sipush (-9999), 3) := by decide +kernel
theorem dX5_offsetAt_43 : decode cX5_offsetAt 43 = .ok (.invokestatic 63, 3) := by decide +kernel
theorem dX5_offsetAt_46 : decode cX5_offsetAt 46 = .ok (.istore 8, 2) := by decide +kernel
theorem dX5_offsetAt_48 : decode cX5_offsetAt 48 = .ok (.iload 8, 2) := by decide +kernel
theorem dX5_offsetAt_50 : decode cX5_offsetAt 50 = .ok (.iload 4, 2) := by decide +kernel
theorem dX5_offsetAt_52 : decode cX5_offsetAt 52 = .ok (.sipush 9999, 3) := by decide +kernel
theorem dX5_offsetAt_55 : decode cX5_offsetAt 55 = .ok (.invokestatic 67, 3) := by decide +kernel
theorem dX5_offsetAt_58 : decode cX5_offsetAt 58 = .ok (.if_icmp .gt 63, 3) := by decide +kernel
theorem dX5_offsetAt_61 : decode cX5_offsetAt 61 = .ok (.aload_n 0, 1) := by decide +kernel
theorem dX5_offsetAt_62 : decode cX5_offsetAt 62 = .ok (.getfield 21, 3) := by decide +kernel
theorem dX5_offsetAt_65 : decode cX5_offsetAt 65 = .ok (.iload 7, 2) := by decide +kernel
theorem dX5_offsetAt_67 : decode cX5_offsetAt 67 = .ok (.aaload, 1) := by decide +kernel
theorem dX5_offsetAt_68 : decode cX5_offsetAt 68 = .ok (.iload 8, 2) := by decide +kernel
theorem dX5_offsetAt_70 : decode cX5_offsetAt 70 = .ok (.invokevirtual 70, 3) := by decide +kernel
theorem dX5_offsetAt_73 : decode cX5_offsetAt 73 = .ok (.lstore 9, 2) := by decide +kernel
theorem dX5_offsetAt_75 : decode cX5_offsetAt 75 = .ok (.lload 9, 2) := by decide +kernel
theorem dX5_offsetAt_77 : decode cX5_offsetAt 77 = .ok (.lload_n 1, 1) := by decide +kernel
theorem dX5_offsetAt_78 : decode cX5_offsetAt 78 = .ok (.lcmp, 1) := by decide +kernel
theorem dX5_offsetAt_79 : decode cX5_offsetAt 79 = .ok (.ifCond .gt 36, 3) := by decide +kernel
theorem dX5_offsetAt_82 : decode cX5_offsetAt 82 = .ok (.lload 9, 2) := by decide +kernel
theorem dX5_offsetAt_84 : decode cX5_offsetAt 84 = .ok (.aload_n 0, 1) := by decide +kernel
theorem dX5_offsetAt_85 : decode cX5_offsetAt 85 = .ok (.invokevirtual 36, 3) := by decide +kernel
theorem dX5_offsetAt_88 : decode cX5_offsetAt 88 = .ok (.lcmp, 1) := by decide +kernel
theorem dX5_offsetAt_89 : decode cX5_offsetAt 89 = .ok (.ifCond .le 26, 3) := by decide +kernel
theorem dX5_offsetAt_92 : decode cX5_offsetAt 92 = .ok (.lload 9, 2) := by decide +kernel
theorem dX5_offsetAt_94 : decode cX5_offsetAt 94 = .ok (.lload 5, 2) := by decide +kernel
theorem dX5_offsetAt_96 : decode cX5_offsetAt 96 = .ok (.lcmp, 1) := by decide +kernel
theorem dX5_offsetAt_97 : decode cX5_offsetAt 97 = .ok (.ifCond .lt 18, 3) := by decide +kernel
theorem dX5_offsetAt_100 : decode cX5_offsetAt 100 = .ok (.lload 9, 2) := by decide +kernel
theorem dX5_offsetAt_102 : decode cX5_offsetAt 102 = .ok (.lstore 5, 2) := by decide +kernel
theorem dX5_offsetAt_104 : decode cX5_offsetAt 104 = .ok (.aload_n 0, 1) := by decide +kernel
theorem dX5_offsetAt_105 : decode cX5_offsetAt 105 = .ok (.getfield 21, 3) := by decide +kernel
theorem dX5_offsetAt_108 : decode cX5_offsetAt 108 = .ok (.iload 7, 2) := by decide +kernel
theorem dX5_offsetAt_110 : decode cX5_offsetAt 110 = .ok (.aaload, 1) := by decide +kernel
theorem dX5_offsetAt_111 : decode cX5_offsetAt 111 = .ok (.getfield 74, 3) := by decide +kernel
theorem dX5_offsetAt_114 : decode cX5_offsetAt 114 = .ok (.istore_n 3, 1) := by decide +kernel
theorem dX5_offsetAt_115 : decode cX5_offsetAt 115 = .ok (.iinc 8 1, 3) := by decide +kernel
theorem dX5_offsetAt_118 : decode cX5_offsetAt 118 = .ok (.goto (-70), 3) := by decide +kernel
theorem dX5_offsetAt_121 : decode cX5_offsetAt 121 = .ok (.iinc 7 1, 3) := by decide +kernel
theorem dX5_offsetAt_124 : decode cX5_offsetAt 124 = .ok (.goto (-97), 3) := by decide +kernel
theorem dX5_offsetAt_127 : decode cX5_offsetAt 127 = .ok (.iload_n 3, 1) := by decide +kernel
theorem dX5_offsetAt_128 : decode cX5_offsetAt 128 = .ok (.ireturn, 1) := by decide +kernel
theorem dX5_offsetByChanges_0 : decode cX5_offsetByChanges 0 = .ok (.aload_n 0, 1) := by decide +kernel
theorem dX5_offsetByChanges_1 : decode cX5_offsetByChanges 1 = .ok (.getfield 26, 3) := by decide +kernel
theorem dX5_offsetByChanges_4 : decode cX5_offsetByChanges 4 = .ok (.istore_n 3, 1) := by decide +kernel
theorem dX5_offsetByChanges_5 : decode cX5_offsetByChanges 5 = .ok (.iconst 0, 1) := by decide +kernel
theorem dX5_offsetByChanges_6 : decode cX5_offsetByChanges 6 = .ok (.istore 4, 2) := by decide +kernel
theorem dX5_offsetByChanges_8 : decode cX5_offsetByChanges 8 = .ok (.iload 4, 2) := by decide +kernel
theorem dX5_offsetByChanges_10 : decode cX5_offsetByChanges 10 = .ok (.aload_n 0, 1) := by decide +kernel
theorem dX5_offsetByChanges_11 : decode cX5_offsetByChanges 11 = .ok (.getfield 30, 3) := by decide +kernel
theorem dX5_offsetByChanges_14 : decode cX5_offsetByChanges 14 = .ok (.if_icmp .ge 29, 3) := by decide +kernel
theorem dX5_offsetByChanges_17 : decode cX5_offsetByChanges 17 = .ok (.aload_n 0, 1) := by decide +kernel
theorem dX5_offsetByChanges_18 : decode cX5_offsetByChanges 18 = .ok (.getfield 9, 3) := by decide +kernel
theorem dX5_offsetByChanges_21 : decode cX5_offsetByChanges 21 = .ok (.iload 4, 2) := by decide +kernel
theorem dX5_offsetByChanges_23 : decode cX5_offsetByChanges 23 = .ok (.laload, 1) := by decide +kernel
theorem dX5_offsetByChanges_24 : decode cX5_offsetByChanges 24 = .ok (.lload_n 1, 1) := by decide +kernel
theorem dX5_offsetByChanges_25 : decode cX5_offsetByChanges 25 = .ok (.lcmp, 1) := by decide +kernel
theorem dX5_offsetByChanges_26 : decode cX5_offsetByChanges 26 = .ok (.ifCond .gt 17, 3) := by decide +kernel
theorem dX5_offsetByChanges_29 : decode cX5_offsetByChanges 29 = .ok (.aload_n 0, 1) := by decide +kernel
theorem dX5_offsetByChanges_30 : decode cX5_offsetByChanges 30 = .ok (.getfield 15, 3) := by decide +kernel
theorem dX5_offsetByChanges_33 : decode cX5_offsetByChanges 33 = .ok (.iload 4, 2) := by decide +kernel
theorem dX5_offsetByChanges_35 : decode cX5_offsetByChanges 35 = .ok (.iaload, 1) := by decide +kernel
theorem dX5_offsetByChanges_36 : decode cX5_offsetByChanges 36 = .ok (.istore_n 3, 1) := by decide +kernel
theorem dX5_offsetByChanges_37 : decode cX5_offsetByChanges 37 = .ok (.iinc 4 1, 3) := by decide +kernel
theorem dX5_offsetByChanges_40 : decode cX5_offsetByChanges 40 = .ok (.goto (-32), 3) := by decide +kernel
theorem dX5_offsetByChanges_43 : decode cX5_offsetByChanges 43 = .ok (.iload_n 3, 1) := by decide +kernel
theorem dX5_offsetByChanges_44 : decode cX5_offsetByChanges 44 = .ok (.ireturn, 1) := by decide +kernel
theorem dX5_momentOf_0 : decode cX5_momentOf 0 = .ok (.ldc2_w 44, 3) := by decide +kernel
theorem dX5_momentOf_3 : decode cX5_momentOf 3 = .ok (.lstore 4, 2) := by decide +kernel
theorem dX5_momentOf_5 : decode cX5_momentOf 5 = .ok (.iconst 0, 1) := by decide +kernel
theorem dX5_momentOf_6 : decode cX5_momentOf 6 = .ok (.istore 6, 2) := by decide +kernel
theorem dX5_momentOf_8 : decode cX5_momentOf 8 = .ok (.iload 6, 2) := by decide +kernel
theorem dX5_momentOf_10 : decode cX5_momentOf 10 = .ok (.iconst 1, 1) := by decide +kernel
theorem dX5_momentOf_11 : decode cX5_momentOf 11 = .ok (.aload_n 0, 1) := by decide +kernel
theorem dX5_momentOf_12 : decode cX5_momentOf 12 = .ok (.getfield 30, 3) := by decide +kernel
theorem dX5_momentOf_15 : decode cX5_momentOf 15 = .ok (.iadd, 1) := by decide +kernel
theorem dX5_momentOf_16 : decode cX5_momentOf 16 = .ok (.aload_n 0, 1) := by decide +kernel
theorem dX5_momentOf_17 : decode cX5_momentOf 17 = .ok (.getfield 33, 3) := by decide +kernel
theorem dX5_momentOf_20 : decode cX5_momentOf 20 = .ok (.iadd, 1) := by decide +kernel
theorem dX5_momentOf_21 : decode cX5_momentOf 21 = .ok (.if_icmp .ge 83, 3) := by decide +kernel
theorem dX5_momentOf_24 : decode cX5_momentOf 24 = .ok (.aload_n 0, 1) := by decide +kernel
theorem dX5_momentOf_25 : decode cX5_momentOf 25 = .ok (.iload 6, 2) := by decide +kernel
theorem dX5_momentOf_27 : decode cX5_momentOf 27 = .ok (.invokevirtual 77, 3) := by decide +kernel
theorem dX5_momentOf_30 : decode cX5_momentOf 30 = .ok (.istore 7, 2) := by decide +kernel
theorem dX5_momentOf_32 : decode cX5_momentOf 32 = .ok (.lload_n 1, 1) := by decide +kernel
theorem dX5_momentOf_33 : decode cX5_momentOf 33 = .ok (.iload 7, 2) := by decide +kernel
theorem dX5_momentOf_35 : decode cX5_momentOf 35 = .ok (.i2l, 1) := by decide +kernel
theorem dX5_momentOf_36 : decode cX5_momentOf 36 = .ok (.lsub, 1) := by decide +kernel
theorem dX5_momentOf_37 : decode cX5_momentOf 37 = .ok (.lstore 8, 2) := by decide +kernel
theorem dX5_momentOf_39 : decode cX5_momentOf 39 = .ok (.lload 4, 2) := by decide +kernel
theorem dX5_momentOf_41 : decode cX5_momentOf 41 = .ok (.ldc2_w 44, 3) := by decide +kernel
theorem dX5_momentOf_44 : decode cX5_momentOf 44 = .ok (.lcmp, 1) := by decide +kernel
theorem dX5_momentOf_45 : decode cX5_momentOf 45 = .ok (.ifCond .eq 26, 3) := by decide +kernel
theorem dX5_momentOf_48 : decode cX5_momentOf 48 = .ok (.iload_n 3, 1) := by decide +kernel
theorem dX5_momentOf_49 : decode cX5_momentOf 49 = .ok (.ifCond .eq 14, 3) := by decide +kernel
theorem dX5_momentOf_52 : decode cX5_momentOf 52 = .ok (.lload 8, 2) := by decide +kernel
theorem dX5_momentOf_54 : decode cX5_momentOf 54 = .ok (.lload 4, 2) := by decide +kernel
theorem dX5_momentOf_56 : decode cX5_momentOf 56 = .ok (.lcmp, 1) := by decide +kernel
theorem dX5_momentOf_57 : decode cX5_momentOf 57 = .ok (.ifCond .le 18, 3) := by decide +kernel
theorem dX5_momentOf_60 : decode cX5_momentOf 60 = .ok (.goto 11, 3) := by decide +kernel
theorem dX5_momentOf_63 : decode cX5_momentOf 63 = .ok (.lload 8, 2) := by decide +kernel
theorem dX5_momentOf_65 : decode cX5_momentOf 65 = .ok (.lload 4, 2) := by decide +kernel
theorem dX5_momentOf_67 : decode cX5_momentOf 67 = .ok (.lcmp, 1) := by decide +kernel
theorem dX5_momentOf_68 : decode cX5_momentOf 68 = .ok (.ifCond .ge 7, 3) := by decide +kernel
theorem dX5_momentOf_71 : decode cX5_momentOf 71 = .ok (.iconst 1, 1) := by decide +kernel
theorem dX5_momentOf_72 : decode cX5_momentOf 72 = .ok (.goto 4, 3) := by decide +kernel
theorem dX5_momentOf_75 : decode cX5_momentOf 75 = .ok (.iconst 0, 1) := by decide +kernel
theorem dX5_momentOf_76 : decode cX5_momentOf 76 = .ok (.istore 10, 2) := by decide +kernel
theorem dX5_momentOf_78 : decode cX5_momentOf 78 = .ok (.iload 10, 2) := by decide +kernel
theorem dX5_momentOf_80 : decode cX5_momentOf 80 = .ok (.ifCond .eq 18, 3) := by decide +kernel
theorem dX5_momentOf_83 : decode cX5_momentOf 83 = .ok (.aload_n 0, 1) := by decide +kernel
theorem dX5_momentOf_84 : decode cX5_momentOf 84 = .ok (.lload 8, 2) := by decide +kernel
theorem dX5_momentOf_86 : decode cX5_momentOf 86 = .ok (.invokevirtual 81, 3) := by decide +kernel
theorem dX5_momentOf_89 : decode cX5_momentOf 89 = .ok (.iload 7, 2) := by decide +kernel
theorem dX5_momentOf_91 : decode cX5_momentOf 91 = .ok (.if_icmp .ne 7, 3) := by decide +kernel
theorem dX5_momentOf_94 : decode cX5_momentOf 94 = .ok (.lload 8, 2) := by decide +kernel
theorem dX5_momentOf_96 : decode cX5_momentOf 96 = .ok (.lstore 4, 2) := by decide +kernel
theorem dX5_momentOf_98 : decode cX5_momentOf 98 = .ok (.iinc 6 1, 3) := by decide +kernel
theorem dX5_momentOf_101 : decode cX5_momentOf 101 = .ok (.goto (-93), 3) := by decide +kernel
theorem dX5_momentOf_104 : decode cX5_momentOf 104 = .ok (.lload 4, 2) := by decide +kernel
theorem dX5_momentOf_106 : decode cX5_momentOf 106 = .ok (.lreturn, 1) := by decide +kernel
theorem dX5_offsetOfKind_0 : decode cX5_offsetOfKind 0 = .ok (.iload_n 1, 1) := by decide +kernel
theorem dX5_offsetOfKind_1 : decode cX5_offsetOfKind 1 = .ok (.ifCond .gt 8, 3) := by decide +kernel
theorem dX5_offsetOfKind_4 : decode cX5_offsetOfKind 4 = .ok (.aload_n 0, 1) := by decide +kernel
theorem dX5_offsetOfKind_5 : decode cX5_offsetOfKind 5 = .ok (.getfield 26, 3) := by decide +kernel
theorem dX5_offsetOfKind_8 : decode cX5_offsetOfKind 8 = .ok (.ireturn, 1) := by decide +kernel
theorem dX5_offsetOfKind_9 : decode cX5_offsetOfKind 9 = .ok (.iload_n 1, 1) := by decide +kernel
theorem dX5_offsetOfKind_10 : decode cX5_offsetOfKind 10 = .ok (.aload_n 0, 1) := by decide +kernel
theorem dX5_offsetOfKind_11 : decode cX5_offsetOfKind 11 = .ok (.getfield 30, 3) := by decide +kernel
theorem dX5_offsetOfKind_14 : decode cX5_offsetOfKind 14 = .ok (.if_icmp .gt 12, 3) := by decide +kernel
theorem dX5_offsetOfKind_17 : decode cX5_offsetOfKind 17 = .ok (.aload_n 0, 1) := by decide +kernel
theorem dX5_offsetOfKind_18 : decode cX5_offsetOfKind 18 = .ok (.getfield 15, 3) := by decide +kernel
theorem dX5_offsetOfKind_21 : decode cX5_offsetOfKind 21 = .ok (.iload_n 1, 1) := by decide +kernel
theorem dX5_offsetOfKind_22 : decode cX5_offsetOfKind 22 = .ok (.iconst 1, 1) := by decide +kernel
theorem dX5_offsetOfKind_23 : decode cX5_offsetOfKind 23 = .ok (.isub, 1) := by decide +kernel
theorem dX5_offsetOfKind_24 : decode cX5_offsetOfKind 24 = .ok (.iaload, 1) := by decide +kernel
theorem dX5_offsetOfKind_25 : decode cX5_offsetOfKind 25 = .ok (.ireturn, 1) := by decide +kernel
theorem dX5_offsetOfKind_26 : decode cX5_offsetOfKind 26 = .ok (.iload_n 1, 1) := by decide +kernel
theorem dX5_offsetOfKind_27 : decode cX5_offsetOfKind 27 = .ok (.iconst 1, 1) := by decide +kernel
theorem dX5_offsetOfKind_28 : decode cX5_offsetOfKind 28 = .ok (.isub, 1) := by decide +kernel
theorem dX5_offsetOfKind_29 : decode cX5_offsetOfKind 29 = .ok (.aload_n 0, 1) := by decide +kernel
theorem dX5_offsetOfKind_30 : decode cX5_offsetOfKind 30 = .ok (.getfield 30, 3) := by decide +kernel
theorem dX5_offsetOfKind_33 : decode cX5_offsetOfKind 33 = .ok (.isub, 1) := by decide +kernel
theorem dX5_offsetOfKind_34 : decode cX5_offsetOfKind 34 = .ok (.istore_n 2, 1) := by decide +kernel
theorem dX5_offsetOfKind_35 : decode cX5_offsetOfKind 35 = .ok (.iload_n 2, 1) := by decide +kernel
theorem dX5_offsetOfKind_36 : decode cX5_offsetOfKind 36 = .ok (.aload_n 0, 1) := by decide +kernel
theorem dX5_offsetOfKind_37 : decode cX5_offsetOfKind 37 = .ok (.getfield 33, 3) := by decide +kernel
theorem dX5_offsetOfKind_40 : decode cX5_offsetOfKind 40 = .ok (.if_icmp .ge 15, 3) := by decide +kernel
theorem dX5_offsetOfKind_43 : decode cX5_offsetOfKind 43 = .ok (.aload_n 0, 1) := by decide +kernel
theorem dX5_offsetOfKind_44 : decode cX5_offsetOfKind 44 = .ok (.getfield 21, 3) := by decide +kernel
theorem dX5_offsetOfKind_47 : decode cX5_offsetOfKind 47 = .ok (.iload_n 2, 1) := by decide +kernel
theorem dX5_offsetOfKind_48 : decode cX5_offsetOfKind 48 = .ok (.aaload, 1) := by decide +kernel
theorem dX5_offsetOfKind_49 : decode cX5_offsetOfKind 49 = .ok (.getfield 74, 3) := by decide +kernel
theorem dX5_offsetOfKind_52 : decode cX5_offsetOfKind 52 = .ok (.goto 7, 3) := by decide +kernel
theorem dX5_offsetOfKind_55 : decode cX5_offsetOfKind 55 = .ok (.aload_n 0, 1) := by decide +kernel
theorem dX5_offsetOfKind_56 : decode cX5_offsetOfKind 56 = .ok (.getfield 26, 3) := by decide +kernel
theorem dX5_offsetOfKind_59 : decode cX5_offsetOfKind 59 = .ok (.ireturn, 1) := by decide +kernel
theorem dX5_offsetBeforeGap_0 : decode cX5_offsetBeforeGap 0 = .ok (.lload_n 1, 1) := by decide +kernel
theorem dX5_offsetBeforeGap_1 : decode cX5_offsetBeforeGap 1 = .ok (.ldc2_w 84, 3) := by decide +kernel
theorem dX5_offsetBeforeGap_4 : decode cX5_offsetBeforeGap 4 = .ok (.ladd, 1) := by decide +kernel
theorem dX5_offsetBeforeGap_5 : decode cX5_offsetBeforeGap 5 = .ok (.lconst 1, 1) := by decide +kernel
theorem dX5_offsetBeforeGap_6 : decode cX5_offsetBeforeGap 6 = .ok (.ladd, 1) := by decide +kernel
theorem dX5_offsetBeforeGap_7 : decode cX5_offsetBeforeGap 7 = .ok (.lstore_n 3, 1) := by decide +kernel
theorem dX5_offsetBeforeGap_8 : decode cX5_offsetBeforeGap 8 = .ok (.iconst 0, 1) := by decide +kernel
theorem dX5_offsetBeforeGap_9 : decode cX5_offsetBeforeGap 9 = .ok (.istore 5, 2) := by decide +kernel
theorem dX5_offsetBeforeGap_11 : decode cX5_offsetBeforeGap 11 = .ok (.iload 5, 2) := by decide +kernel
theorem dX5_offsetBeforeGap_13 : decode cX5_offsetBeforeGap 13 = .ok (.aload_n 0, 1) := by decide +kernel
theorem dX5_offsetBeforeGap_14 : decode cX5_offsetBeforeGap 14 = .ok (.getfield 30, 3) := by decide +kernel
