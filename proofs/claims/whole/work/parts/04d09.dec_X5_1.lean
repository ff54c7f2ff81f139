theorem dX5_offsetBeforeGap_17 : decode cX5_offsetBeforeGap 17 = .ok (.if_icmp .ge 42, 3) := by decide +kernel
theorem dX5_offsetBeforeGap_20 : decode cX5_offsetBeforeGap 20 = .ok (.aload_n 0, 1) := by decide +kernel
theorem dX5_offsetBeforeGap_21 : decode cX5_offsetBeforeGap 21 = .ok (.getfield 9, 3) := by decide +kernel
theorem dX5_offsetBeforeGap_24 : decode cX5_offsetBeforeGap 24 = .ok (.iload 5, 2) := by decide +kernel
theorem dX5_offsetBeforeGap_26 : decode cX5_offsetBeforeGap 26 = .ok (.laload, 1) := by decide +kernel
theorem dX5_offsetBeforeGap_27 : decode cX5_offsetBeforeGap 27 = .ok (.aload_n 0, 1) := by decide +kernel
theorem dX5_offsetBeforeGap_28 : decode cX5_offsetBeforeGap 28 = .ok (.getfield 15, 3) := by decide +kernel
theorem dX5_offsetBeforeGap_31 : decode cX5_offsetBeforeGap 31 = .ok (.iload 5, 2) := by decide +kernel
theorem dX5_offsetBeforeGap_33 : decode cX5_offsetBeforeGap 33 = .ok (.iaload, 1) := by decide +kernel
theorem dX5_offsetBeforeGap_34 : decode cX5_offsetBeforeGap 34 = .ok (.i2l, 1) := by decide +kernel
theorem dX5_offsetBeforeGap_35 : decode cX5_offsetBeforeGap 35 = .ok (.ladd, 1) := by decide +kernel
theorem dX5_offsetBeforeGap_36 : decode cX5_offsetBeforeGap 36 = .ok (.lload_n 1, 1) := by decide +kernel
theorem dX5_offsetBeforeGap_37 : decode cX5_offsetBeforeGap 37 = .ok (.lcmp, 1) := by decide +kernel
theorem dX5_offsetBeforeGap_38 : decode cX5_offsetBeforeGap 38 = .ok (.ifCond .le 15, 3) := by decide +kernel
theorem dX5_offsetBeforeGap_41 : decode cX5_offsetBeforeGap 41 = .ok (.lload_n 3, 1) := by decide +kernel
theorem dX5_offsetBeforeGap_42 : decode cX5_offsetBeforeGap 42 = .ok (.aload_n 0, 1) := by decide +kernel
theorem dX5_offsetBeforeGap_43 : decode cX5_offsetBeforeGap 43 = .ok (.getfield 9, 3) := by decide +kernel
theorem dX5_offsetBeforeGap_46 : decode cX5_offsetBeforeGap 46 = .ok (.iload 5, 2) := by decide +kernel
theorem dX5_offsetBeforeGap_48 : decode cX5_offsetBeforeGap 48 = .ok (.laload, 1) := by decide +kernel
theorem dX5_offsetBeforeGap_49 : decode cX5_offsetBeforeGap 49 = .ok (.invokestatic 86, 3) := by decide +kernel
theorem dX5_offsetBeforeGap_52 : decode cX5_offsetBeforeGap 52 = .ok (.lstore_n 3, 1) := by decide +kernel
theorem dX5_offsetBeforeGap_53 : decode cX5_offsetBeforeGap 53 = .ok (.iinc 5 1, 3) := by decide +kernel
theorem dX5_offsetBeforeGap_56 : decode cX5_offsetBeforeGap 56 = .ok (.goto (-45), 3) := by decide +kernel
theorem dX5_offsetBeforeGap_59 : decode cX5_offsetBeforeGap 59 = .ok (.lload_n 1, 1) := by decide +kernel
theorem dX5_offsetBeforeGap_60 : decode cX5_offsetBeforeGap 60 = .ok (.ldc2_w 50, 3) := by decide +kernel
theorem dX5_offsetBeforeGap_63 : decode cX5_offsetBeforeGap 63 = .ok (.invokestatic 52, 3) := by decide +kernel
theorem dX5_offsetBeforeGap_66 : decode cX5_offsetBeforeGap 66 = .ok (.invokestatic 58, 3) := by decide +kernel
theorem dX5_offsetBeforeGap_69 : decode cX5_offsetBeforeGap 69 = .ok (.istore 5, 2) := by decide +kernel
theorem dX5_offsetBeforeGap_71 : decode cX5_offsetBeforeGap 71 = .ok (.iload 5, 2) := by decide +kernel
theorem dX5_offsetBeforeGap_73 : decode cX5_offsetBeforeGap 73 = .ok (.iconst 1, 1) := by decide +kernel
theorem dX5_offsetBeforeGap_74 : decode cX5_offsetBeforeGap 74 = .ok (.isub, 1) := by decide +kernel
theorem dX5_offsetBeforeGap_75 : decode cX5_offsetBeforeGap 75 = .ok (.sipush (-9999), 3) := by decide +kernel
theorem dX5_offsetBeforeGap_78 : decode cX5_offsetBeforeGap 78 = .ok (.invokestatic 63, 3) := by decide +kernel
theorem dX5_offsetBeforeGap_81 : decode cX5_offsetBeforeGap 81 = .ok (.istore 6, 2) := by decide +kernel
theorem dX5_offsetBeforeGap_83 : decode cX5_offsetBeforeGap 83 = .ok (.iload 6, 2) := by decide +kernel
theorem dX5_offsetBeforeGap_85 : decode cX5_offsetBeforeGap 85 = .ok (.iload 5, 2) := by decide +kernel
theorem dX5_offsetBeforeGap_87 : decode cX5_offsetBeforeGap 87 = .ok (.iconst 1, 1) := by decide +kernel
theorem dX5_offsetBeforeGap_88 : decode cX5_offsetBeforeGap 88 = .ok (.iadd, 1) := by decide +kernel
theorem dX5_offsetBeforeGap_89 : decode cX5_offsetBeforeGap 89 = .ok (.sipush 9999, 3) := by decide +kernel
theorem dX5_offsetBeforeGap_92 : decode cX5_offsetBeforeGap 92 = .ok (.invokestatic 67, 3) := by decide +kernel
theorem dX5_offsetBeforeGap_95 : decode cX5_offsetBeforeGap 95 = .ok (.if_icmp .gt 66, 3) := by decide +kernel
theorem dX5_offsetBeforeGap_98 : decode cX5_offsetBeforeGap 98 = .ok (.iconst 0, 1) := by decide +kernel
theorem dX5_offsetBeforeGap_99 : decode cX5_offsetBeforeGap 99 = .ok (.istore 7, 2) := by decide +kernel
theorem dX5_offsetBeforeGap_101 : decode cX5_offsetBeforeGap 101 = .ok (.iload 7, 2) := by decide +kernel
theorem dX5_offsetBeforeGap_103 : decode cX5_offsetBeforeGap 103 = .ok (.aload_n 0, 1) := by decide +kernel
theorem dX5_offsetBeforeGap_104 : decode cX5_offsetBeforeGap 104 = .ok (.getfield 33, 3) := by decide +kernel
theorem dX5_offsetBeforeGap_107 : decode cX5_offsetBeforeGap 107 = .ok (.if_icmp .ge 48, 3) := by decide +kernel
theorem dX5_offsetBeforeGap_110 : decode cX5_offsetBeforeGap 110 = .ok (.aload_n 0, 1) := by decide +kernel
theorem dX5_offsetBeforeGap_111 : decode cX5_offsetBeforeGap 111 = .ok (.getfield 21, 3) := by decide +kernel
theorem dX5_offsetBeforeGap_114 : decode cX5_offsetBeforeGap 114 = .ok (.iload 7, 2) := by decide +kernel
theorem dX5_offsetBeforeGap_116 : decode cX5_offsetBeforeGap 116 = .ok (.aaload, 1) := by decide +kernel
theorem dX5_offsetBeforeGap_117 : decode cX5_offsetBeforeGap 117 = .ok (.iload 6, 2) := by decide +kernel
theorem dX5_offsetBeforeGap_119 : decode cX5_offsetBeforeGap 119 = .ok (.invokevirtual 70, 3) := by decide +kernel
theorem dX5_offsetBeforeGap_122 : decode cX5_offsetBeforeGap 122 = .ok (.lstore 8, 2) := by decide +kernel
theorem dX5_offsetBeforeGap_124 : decode cX5_offsetBeforeGap 124 = .ok (.lload 8, 2) := by decide +kernel
theorem dX5_offsetBeforeGap_126 : decode cX5_offsetBeforeGap 126 = .ok (.lload_n 3, 1) := by decide +kernel
theorem dX5_offsetBeforeGap_127 : decode cX5_offsetBeforeGap 127 = .ok (.lcmp, 1) := by decide +kernel
theorem dX5_offsetBeforeGap_128 : decode cX5_offsetBeforeGap 128 = .ok (.ifCond .ge 21, 3) := by decide +kernel
theorem dX5_offsetBeforeGap_131 : decode cX5_offsetBeforeGap 131 = .ok (.lload 8, 2) := by decide +kernel
theorem dX5_offsetBeforeGap_133 : decode cX5_offsetBeforeGap 133 = .ok (.aload_n 0, 1) := by decide +kernel
theorem dX5_offsetBeforeGap_134 : decode cX5_offsetBeforeGap 134 = .ok (.lload 8, 2) := by decide +kernel
theorem dX5_offsetBeforeGap_136 : decode cX5_offsetBeforeGap 136 = .ok (.invokevirtual 81, 3) := by decide +kernel
theorem dX5_offsetBeforeGap_139 : decode cX5_offsetBeforeGap 139 = .ok (.i2l, 1) := by decide +kernel
theorem dX5_offsetBeforeGap_140 : decode cX5_offsetBeforeGap 140 = .ok (.ladd, 1) := by decide +kernel
theorem dX5_offsetBeforeGap_141 : decode cX5_offsetBeforeGap 141 = .ok (.lload_n 1, 1) := by decide +kernel
theorem dX5_offsetBeforeGap_142 : decode cX5_offsetBeforeGap 142 = .ok (.lcmp, 1) := by decide +kernel
theorem dX5_offsetBeforeGap_143 : decode cX5_offsetBeforeGap 143 = .ok (.ifCond .le 6, 3) := by decide +kernel
theorem dX5_offsetBeforeGap_146 : decode cX5_offsetBeforeGap 146 = .ok (.lload 8, 2) := by decide +kernel
theorem dX5_offsetBeforeGap_148 : decode cX5_offsetBeforeGap 148 = .ok (.lstore_n 3, 1) := by decide +kernel
theorem dX5_offsetBeforeGap_149 : decode cX5_offsetBeforeGap 149 = .ok (.iinc 7 1, 3) := by decide +kernel
theorem dX5_offsetBeforeGap_152 : decode cX5_offsetBeforeGap 152 = .ok (.goto (-51), 3) := by decide +kernel
theorem dX5_offsetBeforeGap_155 : decode cX5_offsetBeforeGap 155 = .ok (.iinc 6 1, 3) := by decide +kernel
theorem dX5_offsetBeforeGap_158 : decode cX5_offsetBeforeGap 158 = .ok (.goto (-75), 3) := by decide +kernel
theorem dX5_offsetBeforeGap_161 : decode cX5_offsetBeforeGap 161 = .ok (.aload_n 0, 1) := by decide +kernel
theorem dX5_offsetBeforeGap_162 : decode cX5_offsetBeforeGap 162 = .ok (.lload_n 3, 1) := by decide +kernel
theorem dX5_offsetBeforeGap_163 : decode cX5_offsetBeforeGap 163 = .ok (.lconst 1, 1) := by decide +kernel
theorem dX5_offsetBeforeGap_164 : decode cX5_offsetBeforeGap 164 = .ok (.lsub, 1) := by decide +kernel
theorem dX5_offsetBeforeGap_165 : decode cX5_offsetBeforeGap 165 = .ok (.invokevirtual 81, 3) := by decide +kernel
theorem dX5_offsetBeforeGap_168 : decode cX5_offsetBeforeGap 168 = .ok (.ireturn, 1) := by decide +kernel
