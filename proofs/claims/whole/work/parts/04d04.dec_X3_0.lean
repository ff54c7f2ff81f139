theorem dX3_init_0 : decode cX3_init 0 = .ok (.aload_n 0, 1) := by decide +kernel
theorem dX3_init_1 : decode cX3_init 1 = .ok (.invokespecial 3, 3) := by decide +kernel
theorem dX3_init_4 : decode cX3_init 4 = .ok (.aload_n 0, 1) := by decide +kernel
theorem dX3_init_5 : decode cX3_init 5 = .ok (.iconst 1, 1) := by decide +kernel
theorem dX3_init_6 : decode cX3_init 6 = .ok (.putfield 9, 3) := by decide +kernel
theorem dX3_init_9 : decode cX3_init 9 = .ok (.aload_n 0, 1) := by decide +kernel
theorem dX3_init_10 : decode cX3_init 10 = .ok (.iconst 1, 1) := by decide +kernel
theorem dX3_init_11 : decode cX3_init 11 = .ok (.putfield 15, 3) := by decide +kernel
theorem dX3_init_14 : decode cX3_init 14 = .ok (.aload_n 0, 1) := by decide +kernel
theorem dX3_init_15 : decode cX3_init 15 = .ok (.iconst 1, 1) := by decide +kernel
theorem dX3_init_16 : decode cX3_init 16 = .ok (.putfield 18, 3) := by decide +kernel
theorem dX3_init_19 : decode cX3_init 19 = .ok (.return_, 1) := by decide +kernel
theorem dX3_become_0 : decode cX3_become 0 = .ok (.aload_n 0, 1) := by decide +kernel
theorem dX3_become_1 : decode cX3_become 1 = .ok (.iload_n 1, 1) := by decide +kernel
theorem dX3_become_2 : decode cX3_become 2 = .ok (.putfield 9, 3) := by decide +kernel
theorem dX3_become_5 : decode cX3_become 5 = .ok (.aload_n 0, 1) := by decide +kernel
theorem dX3_become_6 : decode cX3_become 6 = .ok (.iload_n 2, 1) := by decide +kernel
theorem dX3_become_7 : decode cX3_become 7 = .ok (.putfield 15, 3) := by decide +kernel
theorem dX3_become_10 : decode cX3_become 10 = .ok (.aload_n 0, 1) := by decide +kernel
theorem dX3_become_11 : decode cX3_become 11 = .ok (.iload_n 3, 1) := by decide +kernel
theorem dX3_become_12 : decode cX3_become 12 = .ok (.putfield 18, 3) := by decide +kernel
theorem dX3_become_15 : decode cX3_become 15 = .ok (.aload_n 0, 1) := by decide +kernel
theorem dX3_become_16 : decode cX3_become 16 = .ok (.iload 4, 2) := by decide +kernel
theorem dX3_become_18 : decode cX3_become 18 = .ok (.putfield 21, 3) := by decide +kernel
theorem dX3_become_21 : decode cX3_become 21 = .ok (.aload_n 0, 1) := by decide +kernel
theorem dX3_become_22 : decode cX3_become 22 = .ok (.iload 5, 2) := by decide +kernel
theorem dX3_become_24 : decode cX3_become 24 = .ok (.putfield 24, 3) := by decide +kernel
theorem dX3_become_27 : decode cX3_become 27 = .ok (.return_, 1) := by decide +kernel
theorem dX3_momentIn_0 : decode cX3_momentIn 0 = .ok (.aload_n 0, 1) := by decide +kernel
theorem dX3_momentIn_1 : decode cX3_momentIn 1 = .ok (.getfield 15, 3) := by decide +kernel
theorem dX3_momentIn_4 : decode cX3_momentIn 4 = .ok (.iconst (-1), 1) := by decide +kernel
theorem dX3_momentIn_5 : decode cX3_momentIn 5 = .ok (.if_icmp .ne 14, 3) := by decide +kernel
theorem dX3_momentIn_8 : decode cX3_momentIn 8 = .ok (.iload_n 1, 1) := by decide +kernel
theorem dX3_momentIn_9 : decode cX3_momentIn 9 = .ok (.aload_n 0, 1) := by decide +kernel
theorem dX3_momentIn_10 : decode cX3_momentIn 10 = .ok (.getfield 9, 3) := by decide +kernel
theorem dX3_momentIn_13 : decode cX3_momentIn 13 = .ok (.invokestatic 27, 3) := by decide +kernel
theorem dX3_momentIn_16 : decode cX3_momentIn 16 = .ok (.goto 7, 3) := by decide +kernel
theorem dX3_momentIn_19 : decode cX3_momentIn 19 = .ok (.aload_n 0, 1) := by decide +kernel
theorem dX3_momentIn_20 : decode cX3_momentIn 20 = .ok (.getfield 15, 3) := by decide +kernel
theorem dX3_momentIn_23 : decode cX3_momentIn 23 = .ok (.istore_n 2, 1) := by decide +kernel
theorem dX3_momentIn_24 : decode cX3_momentIn 24 = .ok (.iload_n 1, 1) := by decide +kernel
theorem dX3_momentIn_25 : decode cX3_momentIn 25 = .ok (.aload_n 0, 1) := by decide +kernel
theorem dX3_momentIn_26 : decode cX3_momentIn 26 = .ok (.getfield 9, 3) := by decide +kernel
theorem dX3_momentIn_29 : decode cX3_momentIn 29 = .ok (.iload_n 2, 1) := by decide +kernel
theorem dX3_momentIn_30 : decode cX3_momentIn 30 = .ok (.invokestatic 33, 3) := by decide +kernel
theorem dX3_momentIn_33 : decode cX3_momentIn 33 = .ok (.lstore_n 3, 1) := by decide +kernel
theorem dX3_momentIn_34 : decode cX3_momentIn 34 = .ok (.aload_n 0, 1) := by decide +kernel
theorem dX3_momentIn_35 : decode cX3_momentIn 35 = .ok (.getfield 15, 3) := by decide +kernel
theorem dX3_momentIn_38 : decode cX3_momentIn 38 = .ok (.iconst (-1), 1) := by decide +kernel
theorem dX3_momentIn_39 : decode cX3_momentIn 39 = .ok (.if_icmp .ne 14, 3) := by decide +kernel
theorem dX3_momentIn_42 : decode cX3_momentIn 42 = .ok (.lload_n 3, 1) := by decide +kernel
theorem dX3_momentIn_43 : decode cX3_momentIn 43 = .ok (.aload_n 0, 1) := by decide +kernel
theorem dX3_momentIn_44 : decode cX3_momentIn 44 = .ok (.getfield 18, 3) := by decide +kernel
theorem dX3_momentIn_47 : decode cX3_momentIn 47 = .ok (.invokestatic 37, 3) := by decide +kernel
theorem dX3_momentIn_50 : decode cX3_momentIn 50 = .ok (.goto 11, 3) := by decide +kernel
theorem dX3_momentIn_53 : decode cX3_momentIn 53 = .ok (.lload_n 3, 1) := by decide +kernel
theorem dX3_momentIn_54 : decode cX3_momentIn 54 = .ok (.aload_n 0, 1) := by decide +kernel
theorem dX3_momentIn_55 : decode cX3_momentIn 55 = .ok (.getfield 18, 3) := by decide +kernel
theorem dX3_momentIn_58 : decode cX3_momentIn 58 = .ok (.invokestatic 41, 3) := by decide +kernel
theorem dX3_momentIn_61 : decode cX3_momentIn 61 = .ok (.lstore 5, 2) := by decide +kernel
theorem dX3_momentIn_63 : decode cX3_momentIn 63 = .ok (.lload 5, 2) := by decide +kernel
theorem dX3_momentIn_65 : decode cX3_momentIn 65 = .ok (.ldc2_w 44, 3) := by decide +kernel
theorem dX3_momentIn_68 : decode cX3_momentIn 68 = .ok (.lmul, 1) := by decide +kernel
theorem dX3_momentIn_69 : decode cX3_momentIn 69 = .ok (.aload_n 0, 1) := by decide +kernel
theorem dX3_momentIn_70 : decode cX3_momentIn 70 = .ok (.getfield 21, 3) := by decide +kernel
theorem dX3_momentIn_73 : decode cX3_momentIn 73 = .ok (.i2l, 1) := by decide +kernel
theorem dX3_momentIn_74 : decode cX3_momentIn 74 = .ok (.ladd, 1) := by decide +kernel
theorem dX3_momentIn_75 : decode cX3_momentIn 75 = .ok (.lreturn, 1) := by decide +kernel
