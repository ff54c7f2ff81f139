theorem dX7_lastOf_5 : decode cX7_lastOf 5 = .ok (.iaload, 1) := by decide +kernel
theorem dX7_lastOf_6 : decode cX7_lastOf 6 = .ok (.ifCond .ne 9, 3) := by decide +kernel
theorem dX7_lastOf_9 : decode cX7_lastOf 9 = .ok (.ldc2_w 206, 3) := by decide +kernel
theorem dX7_lastOf_12 : decode cX7_lastOf 12 = .ok (.goto 21, 3) := by decide +kernel
theorem dX7_lastOf_15 : decode cX7_lastOf 15 = .ok (.aload_n 0, 1) := by decide +kernel
theorem dX7_lastOf_16 : decode cX7_lastOf 16 = .ok (.getfield 23, 3) := by decide +kernel
theorem dX7_lastOf_19 : decode cX7_lastOf 19 = .ok (.bipush 8, 2) := by decide +kernel
theorem dX7_lastOf_21 : decode cX7_lastOf 21 = .ok (.iload_n 1, 1) := by decide +kernel
theorem dX7_lastOf_22 : decode cX7_lastOf 22 = .ok (.imul, 1) := by decide +kernel
theorem dX7_lastOf_23 : decode cX7_lastOf 23 = .ok (.aload_n 0, 1) := by decide +kernel
theorem dX7_lastOf_24 : decode cX7_lastOf 24 = .ok (.getfield 20, 3) := by decide +kernel
theorem dX7_lastOf_27 : decode cX7_lastOf 27 = .ok (.iload_n 1, 1) := by decide +kernel
theorem dX7_lastOf_28 : decode cX7_lastOf 28 = .ok (.iaload, 1) := by decide +kernel
theorem dX7_lastOf_29 : decode cX7_lastOf 29 = .ok (.iadd, 1) := by decide +kernel
theorem dX7_lastOf_30 : decode cX7_lastOf 30 = .ok (.iconst 1, 1) := by decide +kernel
theorem dX7_lastOf_31 : decode cX7_lastOf 31 = .ok (.isub, 1) := by decide +kernel
theorem dX7_lastOf_32 : decode cX7_lastOf 32 = .ok (.laload, 1) := by decide +kernel
theorem dX7_lastOf_33 : decode cX7_lastOf 33 = .ok (.lreturn, 1) := by decide +kernel
theorem dX7_change_0 : decode cX7_change 0 = .ok (.aload_n 0, 1) := by decide +kernel
theorem dX7_change_1 : decode cX7_change 1 = .ok (.iconst 0, 1) := by decide +kernel
theorem dX7_change_2 : decode cX7_change 2 = .ok (.putfield 41, 3) := by decide +kernel
theorem dX7_change_5 : decode cX7_change 5 = .ok (.iload_n 1, 1) := by decide +kernel
theorem dX7_change_6 : decode cX7_change 6 = .ok (.i2l, 1) := by decide +kernel
theorem dX7_change_7 : decode cX7_change 7 = .ok (.lconst 0, 1) := by decide +kernel
theorem dX7_change_8 : decode cX7_change 8 = .ok (.ldc2_w 90, 3) := by decide +kernel
theorem dX7_change_11 : decode cX7_change 11 = .ok (.invokestatic 102, 3) := by decide +kernel
theorem dX7_change_14 : decode cX7_change 14 = .ok (.ifCond .eq 55, 3) := by decide +kernel
theorem dX7_change_17 : decode cX7_change 17 = .ok (.iload 4, 2) := by decide +kernel
theorem dX7_change_19 : decode cX7_change 19 = .ok (.i2l, 1) := by decide +kernel
theorem dX7_change_20 : decode cX7_change 20 = .ok (.ldc2_w 216, 3) := by decide +kernel
theorem dX7_change_23 : decode cX7_change 23 = .ok (.ldc2_w 218, 3) := by decide +kernel
theorem dX7_change_26 : decode cX7_change 26 = .ok (.invokestatic 102, 3) := by decide +kernel
theorem dX7_change_29 : decode cX7_change 29 = .ok (.ifCond .eq 40, 3) := by decide +kernel
theorem dX7_change_32 : decode cX7_change 32 = .ok (.lload_n 2, 1) := by decide +kernel
theorem dX7_change_33 : decode cX7_change 33 = .ok (.invokestatic 220, 3) := by decide +kernel
theorem dX7_change_36 : decode cX7_change 36 = .ok (.ifCond .eq 33, 3) := by decide +kernel
theorem dX7_change_39 : decode cX7_change 39 = .ok (.aload_n 0, 1) := by decide +kernel
theorem dX7_change_40 : decode cX7_change 40 = .ok (.getfield 20, 3) := by decide +kernel
theorem dX7_change_43 : decode cX7_change 43 = .ok (.iload_n 1, 1) := by decide +kernel
theorem dX7_change_44 : decode cX7_change 44 = .ok (.iaload, 1) := by decide +kernel
theorem dX7_change_45 : decode cX7_change 45 = .ok (.bipush 8, 2) := by decide +kernel
theorem dX7_change_47 : decode cX7_change 47 = .ok (.if_icmp .eq 22, 3) := by decide +kernel
theorem dX7_change_50 : decode cX7_change 50 = .ok (.aload_n 0, 1) := by decide +kernel
theorem dX7_change_51 : decode cX7_change 51 = .ok (.getfield 29, 3) := by decide +kernel
theorem dX7_change_54 : decode cX7_change 54 = .ok (.iload_n 1, 1) := by decide +kernel
theorem dX7_change_55 : decode cX7_change 55 = .ok (.iaload, 1) := by decide +kernel
theorem dX7_change_56 : decode cX7_change 56 = .ok (.ifCond .gt 13, 3) := by decide +kernel
theorem dX7_change_59 : decode cX7_change 59 = .ok (.lload_n 2, 1) := by decide +kernel
theorem dX7_change_60 : decode cX7_change 60 = .ok (.aload_n 0, 1) := by decide +kernel
theorem dX7_change_61 : decode cX7_change 61 = .ok (.iload_n 1, 1) := by decide +kernel
theorem dX7_change_62 : decode cX7_change 62 = .ok (.invokevirtual 223, 3) := by decide +kernel
theorem dX7_change_65 : decode cX7_change 65 = .ok (.lcmp, 1) := by decide +kernel
theorem dX7_change_66 : decode cX7_change 66 = .ok (.ifCond .gt 5, 3) := by decide +kernel
theorem dX7_change_69 : decode cX7_change 69 = .ok (.iconst 0, 1) := by decide +kernel
theorem dX7_change_70 : decode cX7_change 70 = .ok (.ireturn, 1) := by decide +kernel
theorem dX7_change_71 : decode cX7_change 71 = .ok (.aload_n 0, 1) := by decide +kernel
theorem dX7_change_72 : decode cX7_change 72 = .ok (.getfield 23, 3) := by decide +kernel
theorem dX7_change_75 : decode cX7_change 75 = .ok (.bipush 8, 2) := by decide +kernel
theorem dX7_change_77 : decode cX7_change 77 = .ok (.iload_n 1, 1) := by decide +kernel
theorem dX7_change_78 : decode cX7_change 78 = .ok (.imul, 1) := by decide +kernel
theorem dX7_change_79 : decode cX7_change 79 = .ok (.aload_n 0, 1) := by decide +kernel
theorem dX7_change_80 : decode cX7_change 80 = .ok (.getfield 20, 3) := by decide +kernel
theorem dX7_change_83 : decode cX7_change 83 = .ok (.iload_n 1, 1) := by decide +kernel
theorem dX7_change_84 : decode cX7_change 84 = .ok (.iaload, 1) := by decide +kernel
theorem dX7_change_85 : decode cX7_change 85 = .ok (.iadd, 1) := by decide +kernel
theorem dX7_change_86 : decode cX7_change 86 = .ok (.lload_n 2, 1) := by decide +kernel
theorem dX7_change_87 : decode cX7_change 87 = .ok (.lastore, 1) := by decide +kernel
theorem dX7_change_88 : decode cX7_change 88 = .ok (.aload_n 0, 1) := by decide +kernel
theorem dX7_change_89 : decode cX7_change 89 = .ok (.getfield 26, 3) := by decide +kernel
theorem dX7_change_92 : decode cX7_change 92 = .ok (.bipush 8, 2) := by decide +kernel
theorem dX7_change_94 : decode cX7_change 94 = .ok (.iload_n 1, 1) := by decide +kernel
theorem dX7_change_95 : decode cX7_change 95 = .ok (.imul, 1) := by decide +kernel
theorem dX7_change_96 : decode cX7_change 96 = .ok (.aload_n 0, 1) := by decide +kernel
theorem dX7_change_97 : decode cX7_change 97 = .ok (.getfield 20, 3) := by decide +kernel
theorem dX7_change_100 : decode cX7_change 100 = .ok (.iload_n 1, 1) := by decide +kernel
theorem dX7_change_101 : decode cX7_change 101 = .ok (.iaload, 1) := by decide +kernel
theorem dX7_change_102 : decode cX7_change 102 = .ok (.iadd, 1) := by decide +kernel
theorem dX7_change_103 : decode cX7_change 103 = .ok (.iload 4, 2) := by decide +kernel
theorem dX7_change_105 : decode cX7_change 105 = .ok (.iastore, 1) := by decide +kernel
theorem dX7_change_106 : decode cX7_change 106 = .ok (.aload_n 0, 1) := by decide +kernel
theorem dX7_change_107 : decode cX7_change 107 = .ok (.getfield 20, 3) := by decide +kernel
theorem dX7_change_110 : decode cX7_change 110 = .ok (.iload_n 1, 1) := by decide +kernel
theorem dX7_change_111 : decode cX7_change 111 = .ok (.dup2, 1) := by decide +kernel
theorem dX7_change_112 : decode cX7_change 112 = .ok (.iaload, 1) := by decide +kernel
theorem dX7_change_113 : decode cX7_change 113 = .ok (.iconst 1, 1) := by decide +kernel
theorem dX7_change_114 : decode cX7_change 114 = .ok (.iadd, 1) := by decide +kernel
theorem dX7_change_115 : decode cX7_change 115 = .ok (.iastore, 1) := by decide +kernel
theorem dX7_change_116 : decode cX7_change 116 = .ok (.iconst 1, 1) := by decide +kernel
theorem dX7_change_117 : decode cX7_change 117 = .ok (.ireturn, 1) := by decide +kernel
theorem dX7_rule_0 : decode cX7_rule 0 = .ok (.aload_n 0, 1) := by decide +kernel
theorem dX7_rule_1 : decode cX7_rule 1 = .ok (.iconst 0, 1) := by decide +kernel
theorem dX7_rule_2 : decode cX7_rule 2 = .ok (.putfield 41, 3) := by decide +kernel
theorem dX7_rule_5 : decode cX7_rule 5 = .ok (.iload_n 1, 1) := by decide +kernel
theorem dX7_rule_6 : decode cX7_rule 6 = .ok (.i2l, 1) := by decide +kernel
theorem dX7_rule_7 : decode cX7_rule 7 = .ok (.lconst 0, 1) := by decide +kernel
theorem dX7_rule_8 : decode cX7_rule 8 = .ok (.ldc2_w 90, 3) := by decide +kernel
theorem dX7_rule_11 : decode cX7_rule 11 = .ok (.invokestatic 102, 3) := by decide +kernel
theorem dX7_rule_14 : decode cX7_rule 14 = .ok (.ifCond .eq 59, 3) := by decide +kernel
theorem dX7_rule_17 : decode cX7_rule 17 = .ok (.aload_n 0, 1) := by decide +kernel
theorem dX7_rule_18 : decode cX7_rule 18 = .ok (.getfield 29, 3) := by decide +kernel
theorem dX7_rule_21 : decode cX7_rule 21 = .ok (.iload_n 1, 1) := by decide +kernel
theorem dX7_rule_22 : decode cX7_rule 22 = .ok (.iaload, 1) := by decide +kernel
theorem dX7_rule_23 : decode cX7_rule 23 = .ok (.iconst 2, 1) := by decide +kernel
theorem dX7_rule_24 : decode cX7_rule 24 = .ok (.if_icmp .ge 49, 3) := by decide +kernel
theorem dX7_rule_27 : decode cX7_rule 27 = .ok (.iload_n 2, 1) := by decide +kernel
theorem dX7_rule_28 : decode cX7_rule 28 = .ok (.i2l, 1) := by decide +kernel
theorem dX7_rule_29 : decode cX7_rule 29 = .ok (.lconst 1, 1) := by decide +kernel
theorem dX7_rule_30 : decode cX7_rule 30 = .ok (.ldc2_w 110, 3) := by decide +kernel
theorem dX7_rule_33 : decode cX7_rule 33 = .ok (.invokestatic 102, 3) := by decide +kernel
theorem dX7_rule_36 : decode cX7_rule 36 = .ok (.ifCond .eq 37, 3) := by decide +kernel
theorem dX7_rule_39 : decode cX7_rule 39 = .ok (.iload_n 3, 1) := by decide +kernel
theorem dX7_rule_40 : decode cX7_rule 40 = .ok (.iconst (-1), 1) := by decide +kernel
theorem dX7_rule_41 : decode cX7_rule 41 = .ok (.if_icmp .eq 15, 3) := by decide +kernel
theorem dX7_rule_44 : decode cX7_rule 44 = .ok (.iload_n 3, 1) := by decide +kernel
theorem dX7_rule_45 : decode cX7_rule 45 = .ok (.i2l, 1) := by decide +kernel
theorem dX7_rule_46 : decode cX7_rule 46 = .ok (.lconst 1, 1) := by decide +kernel
theorem dX7_rule_47 : decode cX7_rule 47 = .ok (.ldc2_w 226, 3) := by decide +kernel
theorem dX7_rule_50 : decode cX7_rule 50 = .ok (.invokestatic 102, 3) := by decide +kernel
theorem dX7_rule_53 : decode cX7_rule 53 = .ok (.ifCond .eq 20, 3) := by decide +kernel
theorem dX7_rule_56 : decode cX7_rule 56 = .ok (.iload 4, 2) := by decide +kernel
theorem dX7_rule_58 : decode cX7_rule 58 = .ok (.i2l, 1) := by decide +kernel
theorem dX7_rule_59 : decode cX7_rule 59 = .ok (.lconst 1, 1) := by decide +kernel
theorem dX7_rule_60 : decode cX7_rule 60 = .ok (.ldc2_w 92, 3) := by decide +kernel
theorem dX7_rule_63 : decode cX7_rule 63 = .ok (.invokestatic 102, 3) := by decide +kernel
theorem dX7_rule_66 : decode cX7_rule 66 = .ok (.ifCond .eq 7, 3) := by decide +kernel
theorem dX7_rule_69 : decode cX7_rule 69 = .ok (.iconst 1, 1) := by decide +kernel
theorem dX7_rule_70 : decode cX7_rule 70 = .ok (.goto 4, 3) := by decide +kernel
theorem dX7_rule_73 : decode cX7_rule 73 = .ok (.iconst 0, 1) := by decide +kernel
theorem dX7_rule_74 : decode cX7_rule 74 = .ok (.istore 7, 2) := by decide +kernel
theorem dX7_rule_76 : decode cX7_rule 76 = .ok (.iload 7, 2) := by decide +kernel
theorem dX7_rule_78 : decode cX7_rule 78 = .ok (.ifCond .eq 31, 3) := by decide +kernel
theorem dX7_rule_81 : decode cX7_rule 81 = .ok (.iload 5, 2) := by decide +kernel
theorem dX7_rule_83 : decode cX7_rule 83 = .ok (.i2l, 1) := by decide +kernel
theorem dX7_rule_84 : decode cX7_rule 84 = .ok (.lconst 0, 1) := by decide +kernel
theorem dX7_rule_85 : decode cX7_rule 85 = .ok (.ldc2_w 171, 3) := by decide +kernel
theorem dX7_rule_88 : decode cX7_rule 88 = .ok (.invokestatic 102, 3) := by decide +kernel
theorem dX7_rule_91 : decode cX7_rule 91 = .ok (.ifCond .eq 18, 3) := by decide +kernel
theorem dX7_rule_94 : decode cX7_rule 94 = .ok (.iload 6, 2) := by decide +kernel
theorem dX7_rule_96 : decode cX7_rule 96 = .ok (.i2l, 1) := by decide +kernel
theorem dX7_rule_97 : decode cX7_rule 97 = .ok (.ldc2_w 216, 3) := by decide +kernel
theorem dX7_rule_100 : decode cX7_rule 100 = .ok (.ldc2_w 218, 3) := by decide +kernel
theorem dX7_rule_103 : decode cX7_rule 103 = .ok (.invokestatic 102, 3) := by decide +kernel
theorem dX7_rule_106 : decode cX7_rule 106 = .ok (.ifCond .ne 5, 3) := by decide +kernel
theorem dX7_rule_109 : decode cX7_rule 109 = .ok (.iconst 0, 1) := by decide +kernel
theorem dX7_rule_110 : decode cX7_rule 110 = .ok (.ireturn, 1) := by decide +kernel
theorem dX7_rule_111 : decode cX7_rule 111 = .ok (.bipush 10, 2) := by decide +kernel
theorem dX7_rule_113 : decode cX7_rule 113 = .ok (.iload_n 1, 1) := by decide +kernel
theorem dX7_rule_114 : decode cX7_rule 114 = .ok (.imul, 1) := by decide +kernel
theorem dX7_rule_115 : decode cX7_rule 115 = .ok (.iconst 5, 1) := by decide +kernel
theorem dX7_rule_116 : decode cX7_rule 116 = .ok (.aload_n 0, 1) := by decide +kernel
theorem dX7_rule_117 : decode cX7_rule 117 = .ok (.getfield 29, 3) := by decide +kernel
theorem dX7_rule_120 : decode cX7_rule 120 = .ok (.iload_n 1, 1) := by decide +kernel
theorem dX7_rule_121 : decode cX7_rule 121 = .ok (.iaload, 1) := by decide +kernel
theorem dX7_rule_122 : decode cX7_rule 122 = .ok (.imul, 1) := by decide +kernel
theorem dX7_rule_123 : decode cX7_rule 123 = .ok (.iadd, 1) := by decide +kernel
theorem dX7_rule_124 : decode cX7_rule 124 = .ok (.istore 8, 2) := by decide +kernel
theorem dX7_rule_126 : decode cX7_rule 126 = .ok (.aload_n 0, 1) := by decide +kernel
theorem dX7_rule_127 : decode cX7_rule 127 = .ok (.getfield 32, 3) := by decide +kernel
theorem dX7_rule_130 : decode cX7_rule 130 = .ok (.iload 8, 2) := by decide +kernel
theorem dX7_rule_132 : decode cX7_rule 132 = .ok (.iload_n 2, 1) := by decide +kernel
theorem dX7_rule_133 : decode cX7_rule 133 = .ok (.iastore, 1) := by decide +kernel
theorem dX7_rule_134 : decode cX7_rule 134 = .ok (.aload_n 0, 1) := by decide +kernel
theorem dX7_rule_135 : decode cX7_rule 135 = .ok (.getfield 32, 3) := by decide +kernel
theorem dX7_rule_138 : decode cX7_rule 138 = .ok (.iload 8, 2) := by decide +kernel
theorem dX7_rule_140 : decode cX7_rule 140 = .ok (.iconst 1, 1) := by decide +kernel
theorem dX7_rule_141 : decode cX7_rule 141 = .ok (.iadd, 1) := by decide +kernel
theorem dX7_rule_142 : decode cX7_rule 142 = .ok (.iload_n 3, 1) := by decide +kernel
theorem dX7_rule_143 : decode cX7_rule 143 = .ok (.iastore, 1) := by decide +kernel
theorem dX7_rule_144 : decode cX7_rule 144 = .ok (.aload_n 0, 1) := by decide +kernel
theorem dX7_rule_145 : decode cX7_rule 145 = .ok (.getfield 32, 3) := by decide +kernel
theorem dX7_rule_148 : decode cX7_rule 148 = .ok (.iload 8, 2) := by decide +kernel
theorem dX7_rule_150 : decode cX7_rule 150 = .ok (.iconst 2, 1) := by decide +kernel
theorem dX7_rule_151 : decode cX7_rule 151 = .ok (.iadd, 1) := by decide +kernel
theorem dX7_rule_152 : decode cX7_rule 152 = .ok (.iload 4, 2) := by decide +kernel
theorem dX7_rule_154 : decode cX7_rule 154 = .ok (.iastore, 1) := by decide +kernel
theorem dX7_rule_155 : decode cX7_rule 155 = .ok (.aload_n 0, 1) := by decide +kernel
theorem dX7_rule_156 : decode cX7_rule 156 = .ok (.getfield 32, 3) := by decide +kernel
theorem dX7_rule_159 : decode cX7_rule 159 = .ok (.iload 8, 2) := by decide +kernel
theorem dX7_rule_161 : decode cX7_rule 161 = .ok (.iconst 3, 1) := by decide +kernel
theorem dX7_rule_162 : decode cX7_rule 162 = .ok (.iadd, 1) := by decide +kernel
theorem dX7_rule_163 : decode cX7_rule 163 = .ok (.iload 5, 2) := by decide +kernel
theorem dX7_rule_165 : decode cX7_rule 165 = .ok (.iastore, 1) := by decide +kernel
theorem dX7_rule_166 : decode cX7_rule 166 = .ok (.aload_n 0, 1) := by decide +kernel
theorem dX7_rule_167 : decode cX7_rule 167 = .ok (.getfield 32, 3) := by decide +kernel
theorem dX7_rule_170 : decode cX7_rule 170 = .ok (.iload 8, 2) := by decide +kernel
theorem dX7_rule_172 : decode cX7_rule 172 = .ok (.iconst 4, 1) := by decide +kernel
theorem dX7_rule_173 : decode cX7_rule 173 = .ok (.iadd, 1) := by decide +kernel
theorem dX7_rule_174 : decode cX7_rule 174 = .ok (.iload 6, 2) := by decide +kernel
theorem dX7_rule_176 : decode cX7_rule 176 = .ok (.iastore, 1) := by decide +kernel
theorem dX7_rule_177 : decode cX7_rule 177 = .ok (.aload_n 0, 1) := by decide +kernel
theorem dX7_rule_178 : decode cX7_rule 178 = .ok (.getfield 29, 3) := by decide +kernel
theorem dX7_rule_181 : decode cX7_rule 181 = .ok (.iload_n 1, 1) := by decide +kernel
theorem dX7_rule_182 : decode cX7_rule 182 = .ok (.dup2, 1) := by decide +kernel
theorem dX7_rule_183 : decode cX7_rule 183 = .ok (.iaload, 1) := by decide +kernel
theorem dX7_rule_184 : decode cX7_rule 184 = .ok (.iconst 1, 1) := by decide +kernel
theorem dX7_rule_185 : decode cX7_rule 185 = .ok (.iadd, 1) := by decide +kernel
theorem dX7_rule_186 : decode cX7_rule 186 = .ok (.iastore, 1) := by decide +kernel
theorem dX7_rule_187 : decode cX7_rule 187 = .ok (.iconst 1, 1) := by decide +kernel
theorem dX7_rule_188 : decode cX7_rule 188 = .ok (.ireturn, 1) := by decide +kernel
theorem dX7_ruled_0 : decode cX7_ruled 0 = .ok (.lload_n 3, 1) := by decide +kernel
theorem dX7_ruled_1 : decode cX7_ruled 1 = .ok (.ldc2_w 94, 3) := by decide +kernel
theorem dX7_ruled_4 : decode cX7_ruled 4 = .ok (.ldc2_w 100, 3) := by decide +kernel
theorem dX7_ruled_7 : decode cX7_ruled 7 = .ok (.invokestatic 102, 3) := by decide +kernel
theorem dX7_ruled_10 : decode cX7_ruled 10 = .ok (.ifCond .ne 7, 3) := by decide +kernel
theorem dX7_ruled_13 : decode cX7_ruled 13 = .ok (.ldc2_w 206, 3) := by decide +kernel
theorem dX7_ruled_16 : decode cX7_ruled 16 = .ok (.lreturn, 1) := by decide +kernel
theorem dX7_ruled_17 : decode cX7_ruled 17 = .ok (.aload_n 0, 1) := by decide +kernel
theorem dX7_ruled_18 : decode cX7_ruled 18 = .ok (.getfield 32, 3) := by decide +kernel
theorem dX7_ruled_21 : decode cX7_ruled 21 = .ok (.iload_n 2, 1) := by decide +kernel
theorem dX7_ruled_22 : decode cX7_ruled 22 = .ok (.iaload, 1) := by decide +kernel
theorem dX7_ruled_23 : decode cX7_ruled 23 = .ok (.istore 5, 2) := by decide +kernel
theorem dX7_ruled_25 : decode cX7_ruled 25 = .ok (.aload_n 0, 1) := by decide +kernel
theorem dX7_ruled_26 : decode cX7_ruled 26 = .ok (.getfield 32, 3) := by decide +kernel
theorem dX7_ruled_29 : decode cX7_ruled 29 = .ok (.iload_n 2, 1) := by decide +kernel
theorem dX7_ruled_30 : decode cX7_ruled 30 = .ok (.iconst 1, 1) := by decide +kernel
theorem dX7_ruled_31 : decode cX7_ruled 31 = .ok (.iadd, 1) := by decide +kernel
theorem dX7_ruled_32 : decode cX7_ruled 32 = .ok (.iaload, 1) := by decide +kernel
theorem dX7_ruled_33 : decode cX7_ruled 33 = .ok (.istore 6, 2) := by decide +kernel
theorem dX7_ruled_35 : decode cX7_ruled 35 = .ok (.lload_n 3, 1) := by decide +kernel
theorem dX7_ruled_36 : decode cX7_ruled 36 = .ok (.iload 5, 2) := by decide +kernel
theorem dX7_ruled_38 : decode cX7_ruled 38 = .ok (.iload 6, 2) := by decide +kernel
theorem dX7_ruled_40 : decode cX7_ruled 40 = .ok (.ifCond .ge 12, 3) := by decide +kernel
theorem dX7_ruled_43 : decode cX7_ruled 43 = .ok (.lload_n 3, 1) := by decide +kernel
theorem dX7_ruled_44 : decode cX7_ruled 44 = .ok (.iload 5, 2) := by decide +kernel
theorem dX7_ruled_46 : decode cX7_ruled 46 = .ok (.invokestatic 112, 3) := by decide +kernel
theorem dX7_ruled_49 : decode cX7_ruled 49 = .ok (.goto 5, 3) := by decide +kernel
theorem dX7_ruled_52 : decode cX7_ruled 52 = .ok (.iload 6, 2) := by decide +kernel
theorem dX7_ruled_54 : decode cX7_ruled 54 = .ok (.invokestatic 96, 3) := by decide +kernel
theorem dX7_ruled_57 : decode cX7_ruled 57 = .ok (.lstore 7, 2) := by decide +kernel
theorem dX7_ruled_59 : decode cX7_ruled 59 = .ok (.lload 7, 2) := by decide +kernel
theorem dX7_ruled_61 : decode cX7_ruled 61 = .ok (.invokestatic 138, 3) := by decide +kernel
theorem dX7_ruled_64 : decode cX7_ruled 64 = .ok (.aload_n 0, 1) := by decide +kernel
theorem dX7_ruled_65 : decode cX7_ruled 65 = .ok (.getfield 32, 3) := by decide +kernel
theorem dX7_ruled_68 : decode cX7_ruled 68 = .ok (.iload_n 2, 1) := by decide +kernel
theorem dX7_ruled_69 : decode cX7_ruled 69 = .ok (.iconst 2, 1) := by decide +kernel
theorem dX7_ruled_70 : decode cX7_ruled 70 = .ok (.iadd, 1) := by decide +kernel
theorem dX7_ruled_71 : decode cX7_ruled 71 = .ok (.iaload, 1) := by decide +kernel
theorem dX7_ruled_72 : decode cX7_ruled 72 = .ok (.if_icmp .eq 23, 3) := by decide +kernel
theorem dX7_ruled_75 : decode cX7_ruled 75 = .ok (.lload 7, 2) := by decide +kernel
theorem dX7_ruled_77 : decode cX7_ruled 77 = .ok (.iload 6, 2) := by decide +kernel
theorem dX7_ruled_79 : decode cX7_ruled 79 = .ok (.ifCond .ge 9, 3) := by decide +kernel
theorem dX7_ruled_82 : decode cX7_ruled 82 = .ok (.ldc2_w 210, 3) := by decide +kernel
theorem dX7_ruled_85 : decode cX7_ruled 85 = .ok (.goto 4, 3) := by decide +kernel
theorem dX7_ruled_88 : decode cX7_ruled 88 = .ok (.lconst 1, 1) := by decide +kernel
theorem dX7_ruled_89 : decode cX7_ruled 89 = .ok (.ladd, 1) := by decide +kernel
theorem dX7_ruled_90 : decode cX7_ruled 90 = .ok (.lstore 7, 2) := by decide +kernel
theorem dX7_ruled_92 : decode cX7_ruled 92 = .ok (.goto (-33), 3) := by decide +kernel
theorem dX7_ruled_95 : decode cX7_ruled 95 = .ok (.ldc2_w 171, 3) := by decide +kernel
theorem dX7_ruled_98 : decode cX7_ruled 98 = .ok (.lload 7, 2) := by decide +kernel
theorem dX7_ruled_100 : decode cX7_ruled 100 = .ok (.lmul, 1) := by decide +kernel
theorem dX7_ruled_101 : decode cX7_ruled 101 = .ok (.aload_n 0, 1) := by decide +kernel
theorem dX7_ruled_102 : decode cX7_ruled 102 = .ok (.getfield 32, 3) := by decide +kernel
theorem dX7_ruled_105 : decode cX7_ruled 105 = .ok (.iload_n 2, 1) := by decide +kernel
theorem dX7_ruled_106 : decode cX7_ruled 106 = .ok (.iconst 3, 1) := by decide +kernel
theorem dX7_ruled_107 : decode cX7_ruled 107 = .ok (.iadd, 1) := by decide +kernel
theorem dX7_ruled_108 : decode cX7_ruled 108 = .ok (.iaload, 1) := by decide +kernel
theorem dX7_ruled_109 : decode cX7_ruled 109 = .ok (.i2l, 1) := by decide +kernel
theorem dX7_ruled_110 : decode cX7_ruled 110 = .ok (.ladd, 1) := by decide +kernel
theorem dX7_ruled_111 : decode cX7_ruled 111 = .ok (.lstore 9, 2) := by decide +kernel
theorem dX7_ruled_113 : decode cX7_ruled 113 = .ok (.lload 9, 2) := by decide +kernel
theorem dX7_ruled_115 : decode cX7_ruled 115 = .ok (.aload_n 0, 1) := by decide +kernel
theorem dX7_ruled_116 : decode cX7_ruled 116 = .ok (.iload_n 1, 1) := by decide +kernel
theorem dX7_ruled_117 : decode cX7_ruled 117 = .ok (.invokevirtual 223, 3) := by decide +kernel
theorem dX7_ruled_120 : decode cX7_ruled 120 = .ok (.lcmp, 1) := by decide +kernel
theorem dX7_ruled_121 : decode cX7_ruled 121 = .ok (.ifCond .le 8, 3) := by decide +kernel
theorem dX7_ruled_124 : decode cX7_ruled 124 = .ok (.lload 9, 2) := by decide +kernel
theorem dX7_ruled_126 : decode cX7_ruled 126 = .ok (.goto 6, 3) := by decide +kernel
theorem dX7_ruled_129 : decode cX7_ruled 129 = .ok (.ldc2_w 206, 3) := by decide +kernel
theorem dX7_ruled_132 : decode cX7_ruled 132 = .ok (.lreturn, 1) := by decide +kernel
theorem dX7_yearOf_0 : decode cX7_yearOf 0 = .ok (.aload_n 0, 1) := by decide +kernel
theorem dX7_yearOf_1 : decode cX7_yearOf 1 = .ok (.lload_n 1, 1) := by decide +kernel
theorem dX7_yearOf_2 : decode cX7_yearOf 2 = .ok (.ldc2_w 171, 3) := by decide +kernel
theorem dX7_yearOf_5 : decode cX7_yearOf 5 = .ok (.invokestatic 59, 3) := by decide +kernel
theorem dX7_yearOf_8 : decode cX7_yearOf 8 = .ok (.invokevirtual 106, 3) := by decide +kernel
theorem dX7_yearOf_11 : decode cX7_yearOf 11 = .ok (.aload_n 0, 1) := by decide +kernel
theorem dX7_yearOf_12 : decode cX7_yearOf 12 = .ok (.getfield 86, 3) := by decide +kernel
theorem dX7_yearOf_15 : decode cX7_yearOf 15 = .ok (.lreturn, 1) := by decide +kernel
theorem dX7_offsetAt_0 : decode cX7_offsetAt 0 = .ok (.aload_n 0, 1) := by decide +kernel
theorem dX7_offsetAt_1 : decode cX7_offsetAt 1 = .ok (.getfield 16, 3) := by decide +kernel
theorem dX7_offsetAt_4 : decode cX7_offsetAt 4 = .ok (.iload_n 1, 1) := by decide +kernel
theorem dX7_offsetAt_5 : decode cX7_offsetAt 5 = .ok (.iaload, 1) := by decide +kernel
theorem dX7_offsetAt_6 : decode cX7_offsetAt 6 = .ok (.istore 4, 2) := by decide +kernel
theorem dX7_offsetAt_8 : decode cX7_offsetAt 8 = .ok (.iconst 0, 1) := by decide +kernel
theorem dX7_offsetAt_9 : decode cX7_offsetAt 9 = .ok (.istore 5, 2) := by decide +kernel
theorem dX7_offsetAt_11 : decode cX7_offsetAt 11 = .ok (.iload 5, 2) := by decide +kernel
theorem dX7_offsetAt_13 : decode cX7_offsetAt 13 = .ok (.aload_n 0, 1) := by decide +kernel
theorem dX7_offsetAt_14 : decode cX7_offsetAt 14 = .ok (.getfield 20, 3) := by decide +kernel
theorem dX7_offsetAt_17 : decode cX7_offsetAt 17 = .ok (.iload_n 1, 1) := by decide +kernel
theorem dX7_offsetAt_18 : decode cX7_offsetAt 18 = .ok (.iaload, 1) := by decide +kernel
theorem dX7_offsetAt_19 : decode cX7_offsetAt 19 = .ok (.if_icmp .ge 45, 3) := by decide +kernel
theorem dX7_offsetAt_22 : decode cX7_offsetAt 22 = .ok (.aload_n 0, 1) := by decide +kernel
theorem dX7_offsetAt_23 : decode cX7_offsetAt 23 = .ok (.getfield 23, 3) := by decide +kernel
theorem dX7_offsetAt_26 : decode cX7_offsetAt 26 = .ok (.bipush 8, 2) := by decide +kernel
theorem dX7_offsetAt_28 : decode cX7_offsetAt 28 = .ok (.iload_n 1, 1) := by decide +kernel
theorem dX7_offsetAt_29 : decode cX7_offsetAt 29 = .ok (.imul, 1) := by decide +kernel
theorem dX7_offsetAt_30 : decode cX7_offsetAt 30 = .ok (.iload 5, 2) := by decide +kernel
theorem dX7_offsetAt_32 : decode cX7_offsetAt 32 = .ok (.iadd, 1) := by decide +kernel
theorem dX7_offsetAt_33 : decode cX7_offsetAt 33 = .ok (.laload, 1) := by decide +kernel
theorem dX7_offsetAt_34 : decode cX7_offsetAt 34 = .ok (.lload_n 2, 1) := by decide +kernel
theorem dX7_offsetAt_35 : decode cX7_offsetAt 35 = .ok (.lcmp, 1) := by decide +kernel
