theorem dX4_restUntil_25 : decode cX4_restUntil 25 = .ok (.ladd, 1) := by decide +kernel
theorem dX4_restUntil_26 : decode cX4_restUntil 26 = .ok (.aload_n 0, 1) := by decide +kernel
theorem dX4_restUntil_27 : decode cX4_restUntil 27 = .ok (.getfield 21, 3) := by decide +kernel
theorem dX4_restUntil_30 : decode cX4_restUntil 30 = .ok (.lsub, 1) := by decide +kernel
theorem dX4_restUntil_31 : decode cX4_restUntil 31 = .ok (.lreturn, 1) := by decide +kernel
theorem dX4_monthsUntil_0 : decode cX4_monthsUntil 0 = .ok (.aload_n 1, 1) := by decide +kernel
theorem dX4_monthsUntil_1 : decode cX4_monthsUntil 1 = .ok (.invokevirtual 97, 3) := by decide +kernel
theorem dX4_monthsUntil_4 : decode cX4_monthsUntil 4 = .ok (.aload_n 0, 1) := by decide +kernel
theorem dX4_monthsUntil_5 : decode cX4_monthsUntil 5 = .ok (.invokevirtual 97, 3) := by decide +kernel
theorem dX4_monthsUntil_8 : decode cX4_monthsUntil 8 = .ok (.lsub, 1) := by decide +kernel
theorem dX4_monthsUntil_9 : decode cX4_monthsUntil 9 = .ok (.lstore 6, 2) := by decide +kernel
theorem dX4_monthsUntil_11 : decode cX4_monthsUntil 11 = .ok (.aload_n 1, 1) := by decide +kernel
theorem dX4_monthsUntil_12 : decode cX4_monthsUntil 12 = .ok (.getfield 18, 3) := by decide +kernel
theorem dX4_monthsUntil_15 : decode cX4_monthsUntil 15 = .ok (.aload_n 0, 1) := by decide +kernel
theorem dX4_monthsUntil_16 : decode cX4_monthsUntil 16 = .ok (.getfield 18, 3) := by decide +kernel
theorem dX4_monthsUntil_19 : decode cX4_monthsUntil 19 = .ok (.invokestatic 147, 3) := by decide +kernel
theorem dX4_monthsUntil_22 : decode cX4_monthsUntil 22 = .ok (.istore 8, 2) := by decide +kernel
theorem dX4_monthsUntil_24 : decode cX4_monthsUntil 24 = .ok (.iload 8, 2) := by decide +kernel
theorem dX4_monthsUntil_26 : decode cX4_monthsUntil 26 = .ok (.ifCond .ne 11, 3) := by decide +kernel
theorem dX4_monthsUntil_29 : decode cX4_monthsUntil 29 = .ok (.lload 4, 2) := by decide +kernel
theorem dX4_monthsUntil_31 : decode cX4_monthsUntil 31 = .ok (.lload_n 2, 1) := by decide +kernel
theorem dX4_monthsUntil_32 : decode cX4_monthsUntil 32 = .ok (.invokestatic 137, 3) := by decide +kernel
theorem dX4_monthsUntil_35 : decode cX4_monthsUntil 35 = .ok (.istore 8, 2) := by decide +kernel
theorem dX4_monthsUntil_37 : decode cX4_monthsUntil 37 = .ok (.lload 6, 2) := by decide +kernel
theorem dX4_monthsUntil_39 : decode cX4_monthsUntil 39 = .ok (.lconst 0, 1) := by decide +kernel
theorem dX4_monthsUntil_40 : decode cX4_monthsUntil 40 = .ok (.lcmp, 1) := by decide +kernel
theorem dX4_monthsUntil_41 : decode cX4_monthsUntil 41 = .ok (.ifCond .le 13, 3) := by decide +kernel
theorem dX4_monthsUntil_44 : decode cX4_monthsUntil 44 = .ok (.iload 8, 2) := by decide +kernel
theorem dX4_monthsUntil_46 : decode cX4_monthsUntil 46 = .ok (.ifCond .ge 8, 3) := by decide +kernel
theorem dX4_monthsUntil_49 : decode cX4_monthsUntil 49 = .ok (.lload 6, 2) := by decide +kernel
theorem dX4_monthsUntil_51 : decode cX4_monthsUntil 51 = .ok (.lconst 1, 1) := by decide +kernel
theorem dX4_monthsUntil_52 : decode cX4_monthsUntil 52 = .ok (.lsub, 1) := by decide +kernel
theorem dX4_monthsUntil_53 : decode cX4_monthsUntil 53 = .ok (.lreturn, 1) := by decide +kernel
theorem dX4_monthsUntil_54 : decode cX4_monthsUntil 54 = .ok (.lload 6, 2) := by decide +kernel
theorem dX4_monthsUntil_56 : decode cX4_monthsUntil 56 = .ok (.lconst 0, 1) := by decide +kernel
theorem dX4_monthsUntil_57 : decode cX4_monthsUntil 57 = .ok (.lcmp, 1) := by decide +kernel
theorem dX4_monthsUntil_58 : decode cX4_monthsUntil 58 = .ok (.ifCond .ge 15, 3) := by decide +kernel
theorem dX4_monthsUntil_61 : decode cX4_monthsUntil 61 = .ok (.iload 8, 2) := by decide +kernel
theorem dX4_monthsUntil_63 : decode cX4_monthsUntil 63 = .ok (.ifCond .le 10, 3) := by decide +kernel
theorem dX4_monthsUntil_66 : decode cX4_monthsUntil 66 = .ok (.lload 6, 2) := by decide +kernel
theorem dX4_monthsUntil_68 : decode cX4_monthsUntil 68 = .ok (.lconst 1, 1) := by decide +kernel
theorem dX4_monthsUntil_69 : decode cX4_monthsUntil 69 = .ok (.ladd, 1) := by decide +kernel
theorem dX4_monthsUntil_70 : decode cX4_monthsUntil 70 = .ok (.goto 5, 3) := by decide +kernel
theorem dX4_monthsUntil_73 : decode cX4_monthsUntil 73 = .ok (.lload 6, 2) := by decide +kernel
theorem dX4_monthsUntil_75 : decode cX4_monthsUntil 75 = .ok (.lreturn, 1) := by decide +kernel
