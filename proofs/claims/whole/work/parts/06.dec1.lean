theorem dX1_init_0 : decode cX1_init 0 = .ok (.aload_n 0, 1) := by decide +kernel
theorem dX1_init_1 : decode cX1_init 1 = .ok (.invokespecial 1, 3) := by decide +kernel
theorem dX1_init_4 : decode cX1_init 4 = .ok (.aload_n 0, 1) := by decide +kernel
theorem dX1_init_5 : decode cX1_init 5 = .ok (.iconst 1, 1) := by decide +kernel
theorem dX1_init_6 : decode cX1_init 6 = .ok (.putfield 7, 3) := by decide +kernel
theorem dX1_init_9 : decode cX1_init 9 = .ok (.aload_n 0, 1) := by decide +kernel
theorem dX1_init_10 : decode cX1_init 10 = .ok (.aload_n 1, 1) := by decide +kernel
theorem dX1_init_11 : decode cX1_init 11 = .ok (.putfield 13, 3) := by decide +kernel
theorem dX1_init_14 : decode cX1_init 14 = .ok (.return_, 1) := by decide +kernel
theorem dX1_tally_0 : decode cX1_tally 0 = .ok (.iload_n 1, 1) := by decide +kernel
theorem dX1_tally_1 : decode cX1_tally 1 = .ok (.ifCond .eq 16, 3) := by decide +kernel
theorem dX1_tally_4 : decode cX1_tally 4 = .ok (.aload_n 0, 1) := by decide +kernel
theorem dX1_tally_5 : decode cX1_tally 5 = .ok (.dup, 1) := by decide +kernel
theorem dX1_tally_6 : decode cX1_tally 6 = .ok (.getfield 17, 3) := by decide +kernel
theorem dX1_tally_9 : decode cX1_tally 9 = .ok (.iconst 1, 1) := by decide +kernel
theorem dX1_tally_10 : decode cX1_tally 10 = .ok (.iadd, 1) := by decide +kernel
theorem dX1_tally_11 : decode cX1_tally 11 = .ok (.putfield 17, 3) := by decide +kernel
theorem dX1_tally_14 : decode cX1_tally 14 = .ok (.goto 13, 3) := by decide +kernel
theorem dX1_tally_17 : decode cX1_tally 17 = .ok (.aload_n 0, 1) := by decide +kernel
theorem dX1_tally_18 : decode cX1_tally 18 = .ok (.dup, 1) := by decide +kernel
theorem dX1_tally_19 : decode cX1_tally 19 = .ok (.getfield 21, 3) := by decide +kernel
theorem dX1_tally_22 : decode cX1_tally 22 = .ok (.iconst 1, 1) := by decide +kernel
theorem dX1_tally_23 : decode cX1_tally 23 = .ok (.iadd, 1) := by decide +kernel
theorem dX1_tally_24 : decode cX1_tally 24 = .ok (.putfield 21, 3) := by decide +kernel
theorem dX1_tally_27 : decode cX1_tally 27 = .ok (.iload_n 2, 1) := by decide +kernel
theorem dX1_tally_28 : decode cX1_tally 28 = .ok (.ifCond .ne 13, 3) := by decide +kernel
theorem dX1_tally_31 : decode cX1_tally 31 = .ok (.aload_n 0, 1) := by decide +kernel
theorem dX1_tally_32 : decode cX1_tally 32 = .ok (.dup, 1) := by decide +kernel
theorem dX1_tally_33 : decode cX1_tally 33 = .ok (.getfield 24, 3) := by decide +kernel
theorem dX1_tally_36 : decode cX1_tally 36 = .ok (.iconst 1, 1) := by decide +kernel
theorem dX1_tally_37 : decode cX1_tally 37 = .ok (.iadd, 1) := by decide +kernel
theorem dX1_tally_38 : decode cX1_tally 38 = .ok (.putfield 24, 3) := by decide +kernel
theorem dX1_tally_41 : decode cX1_tally 41 = .ok (.return_, 1) := by decide +kernel
theorem dX1_clearTurn_0 : decode cX1_clearTurn 0 = .ok (.aload_n 0, 1) := by decide +kernel
theorem dX1_clearTurn_1 : decode cX1_clearTurn 1 = .ok (.iload_n 2, 1) := by decide +kernel
theorem dX1_clearTurn_2 : decode cX1_clearTurn 2 = .ok (.invokevirtual 27, 3) := by decide +kernel
theorem dX1_clearTurn_5 : decode cX1_clearTurn 5 = .ok (.aload_n 0, 1) := by decide +kernel
theorem dX1_clearTurn_6 : decode cX1_clearTurn 6 = .ok (.iload_n 1, 1) := by decide +kernel
theorem dX1_clearTurn_7 : decode cX1_clearTurn 7 = .ok (.invokevirtual 27, 3) := by decide +kernel
theorem dX1_clearTurn_10 : decode cX1_clearTurn 10 = .ok (.fsub, 1) := by decide +kernel
theorem dX1_clearTurn_11 : decode cX1_clearTurn 11 = .ok (.aload_n 0, 1) := by decide +kernel
theorem dX1_clearTurn_12 : decode cX1_clearTurn 12 = .ok (.iload_n 3, 1) := by decide +kernel
theorem dX1_clearTurn_13 : decode cX1_clearTurn 13 = .ok (.invokevirtual 31, 3) := by decide +kernel
theorem dX1_clearTurn_16 : decode cX1_clearTurn 16 = .ok (.aload_n 0, 1) := by decide +kernel
theorem dX1_clearTurn_17 : decode cX1_clearTurn 17 = .ok (.iload_n 1, 1) := by decide +kernel
theorem dX1_clearTurn_18 : decode cX1_clearTurn 18 = .ok (.invokevirtual 31, 3) := by decide +kernel
theorem dX1_clearTurn_21 : decode cX1_clearTurn 21 = .ok (.fsub, 1) := by decide +kernel
theorem dX1_clearTurn_22 : decode cX1_clearTurn 22 = .ok (.fmul, 1) := by decide +kernel
theorem dX1_clearTurn_23 : decode cX1_clearTurn 23 = .ok (.aload_n 0, 1) := by decide +kernel
theorem dX1_clearTurn_24 : decode cX1_clearTurn 24 = .ok (.iload_n 2, 1) := by decide +kernel
theorem dX1_clearTurn_25 : decode cX1_clearTurn 25 = .ok (.invokevirtual 31, 3) := by decide +kernel
theorem dX1_clearTurn_28 : decode cX1_clearTurn 28 = .ok (.aload_n 0, 1) := by decide +kernel
theorem dX1_clearTurn_29 : decode cX1_clearTurn 29 = .ok (.iload_n 1, 1) := by decide +kernel
theorem dX1_clearTurn_30 : decode cX1_clearTurn 30 = .ok (.invokevirtual 31, 3) := by decide +kernel
theorem dX1_clearTurn_33 : decode cX1_clearTurn 33 = .ok (.fsub, 1) := by decide +kernel
theorem dX1_clearTurn_34 : decode cX1_clearTurn 34 = .ok (.aload_n 0, 1) := by decide +kernel
theorem dX1_clearTurn_35 : decode cX1_clearTurn 35 = .ok (.iload_n 3, 1) := by decide +kernel
theorem dX1_clearTurn_36 : decode cX1_clearTurn 36 = .ok (.invokevirtual 27, 3) := by decide +kernel
theorem dX1_clearTurn_39 : decode cX1_clearTurn 39 = .ok (.aload_n 0, 1) := by decide +kernel
theorem dX1_clearTurn_40 : decode cX1_clearTurn 40 = .ok (.iload_n 1, 1) := by decide +kernel
theorem dX1_clearTurn_41 : decode cX1_clearTurn 41 = .ok (.invokevirtual 27, 3) := by decide +kernel
theorem dX1_clearTurn_44 : decode cX1_clearTurn 44 = .ok (.fsub, 1) := by decide +kernel
theorem dX1_clearTurn_45 : decode cX1_clearTurn 45 = .ok (.fmul, 1) := by decide +kernel
theorem dX1_clearTurn_46 : decode cX1_clearTurn 46 = .ok (.fsub, 1) := by decide +kernel
theorem dX1_clearTurn_47 : decode cX1_clearTurn 47 = .ok (.fstore 4, 2) := by decide +kernel
theorem dX1_clearTurn_49 : decode cX1_clearTurn 49 = .ok (.aload_n 0, 1) := by decide +kernel
theorem dX1_clearTurn_50 : decode cX1_clearTurn 50 = .ok (.iload_n 1, 1) := by decide +kernel
theorem dX1_clearTurn_51 : decode cX1_clearTurn 51 = .ok (.iload_n 2, 1) := by decide +kernel
theorem dX1_clearTurn_52 : decode cX1_clearTurn 52 = .ok (.iload_n 3, 1) := by decide +kernel
theorem dX1_clearTurn_53 : decode cX1_clearTurn 53 = .ok (.invokevirtual 34, 3) := by decide +kernel
theorem dX1_clearTurn_56 : decode cX1_clearTurn 56 = .ok (.fstore 5, 2) := by decide +kernel
theorem dX1_clearTurn_58 : decode cX1_clearTurn 58 = .ok (.fload 4, 2) := by decide +kernel
theorem dX1_clearTurn_60 : decode cX1_clearTurn 60 = .ok (.fload 5, 2) := by decide +kernel
theorem dX1_clearTurn_62 : decode cX1_clearTurn 62 = .ok (.fload 5, 2) := by decide +kernel
theorem dX1_clearTurn_64 : decode cX1_clearTurn 64 = .ok (.fmul, 1) := by decide +kernel
theorem dX1_clearTurn_65 : decode cX1_clearTurn 65 = .ok (.ldc 38, 2) := by decide +kernel
theorem dX1_clearTurn_67 : decode cX1_clearTurn 67 = .ok (.fmul, 1) := by decide +kernel
theorem dX1_clearTurn_68 : decode cX1_clearTurn 68 = .ok (.invokestatic 39, 3) := by decide +kernel
theorem dX1_clearTurn_71 : decode cX1_clearTurn 71 = .ok (.ireturn, 1) := by decide +kernel
theorem dX1_clearLift_0 : decode cX1_clearLift 0 = .ok (.aload_n 0, 1) := by decide +kernel
theorem dX1_clearLift_1 : decode cX1_clearLift 1 = .ok (.iload_n 1, 1) := by decide +kernel
theorem dX1_clearLift_2 : decode cX1_clearLift 2 = .ok (.invokevirtual 27, 3) := by decide +kernel
theorem dX1_clearLift_5 : decode cX1_clearLift 5 = .ok (.aload_n 0, 1) := by decide +kernel
theorem dX1_clearLift_6 : decode cX1_clearLift 6 = .ok (.iload 4, 2) := by decide +kernel
theorem dX1_clearLift_8 : decode cX1_clearLift 8 = .ok (.invokevirtual 27, 3) := by decide +kernel
theorem dX1_clearLift_11 : decode cX1_clearLift 11 = .ok (.fsub, 1) := by decide +kernel
theorem dX1_clearLift_12 : decode cX1_clearLift 12 = .ok (.fstore 5, 2) := by decide +kernel
theorem dX1_clearLift_14 : decode cX1_clearLift 14 = .ok (.aload_n 0, 1) := by decide +kernel
theorem dX1_clearLift_15 : decode cX1_clearLift 15 = .ok (.iload_n 1, 1) := by decide +kernel
theorem dX1_clearLift_16 : decode cX1_clearLift 16 = .ok (.invokevirtual 31, 3) := by decide +kernel
theorem dX1_clearLift_19 : decode cX1_clearLift 19 = .ok (.aload_n 0, 1) := by decide +kernel
theorem dX1_clearLift_20 : decode cX1_clearLift 20 = .ok (.iload 4, 2) := by decide +kernel
theorem dX1_clearLift_22 : decode cX1_clearLift 22 = .ok (.invokevirtual 31, 3) := by decide +kernel
theorem dX1_clearLift_25 : decode cX1_clearLift 25 = .ok (.fsub, 1) := by decide +kernel
theorem dX1_clearLift_26 : decode cX1_clearLift 26 = .ok (.fstore 6, 2) := by decide +kernel
theorem dX1_clearLift_28 : decode cX1_clearLift 28 = .ok (.aload_n 0, 1) := by decide +kernel
theorem dX1_clearLift_29 : decode cX1_clearLift 29 = .ok (.iload_n 2, 1) := by decide +kernel
theorem dX1_clearLift_30 : decode cX1_clearLift 30 = .ok (.invokevirtual 27, 3) := by decide +kernel
theorem dX1_clearLift_33 : decode cX1_clearLift 33 = .ok (.aload_n 0, 1) := by decide +kernel
theorem dX1_clearLift_34 : decode cX1_clearLift 34 = .ok (.iload 4, 2) := by decide +kernel
theorem dX1_clearLift_36 : decode cX1_clearLift 36 = .ok (.invokevirtual 27, 3) := by decide +kernel
theorem dX1_clearLift_39 : decode cX1_clearLift 39 = .ok (.fsub, 1) := by decide +kernel
theorem dX1_clearLift_40 : decode cX1_clearLift 40 = .ok (.fstore 7, 2) := by decide +kernel
theorem dX1_clearLift_42 : decode cX1_clearLift 42 = .ok (.aload_n 0, 1) := by decide +kernel
theorem dX1_clearLift_43 : decode cX1_clearLift 43 = .ok (.iload_n 2, 1) := by decide +kernel
theorem dX1_clearLift_44 : decode cX1_clearLift 44 = .ok (.invokevirtual 31, 3) := by decide +kernel
theorem dX1_clearLift_47 : decode cX1_clearLift 47 = .ok (.aload_n 0, 1) := by decide +kernel
theorem dX1_clearLift_48 : decode cX1_clearLift 48 = .ok (.iload 4, 2) := by decide +kernel
theorem dX1_clearLift_50 : decode cX1_clearLift 50 = .ok (.invokevirtual 31, 3) := by decide +kernel
theorem dX1_clearLift_53 : decode cX1_clearLift 53 = .ok (.fsub, 1) := by decide +kernel
theorem dX1_clearLift_54 : decode cX1_clearLift 54 = .ok (.fstore 8, 2) := by decide +kernel
theorem dX1_clearLift_56 : decode cX1_clearLift 56 = .ok (.aload_n 0, 1) := by decide +kernel
theorem dX1_clearLift_57 : decode cX1_clearLift 57 = .ok (.iload_n 3, 1) := by decide +kernel
theorem dX1_clearLift_58 : decode cX1_clearLift 58 = .ok (.invokevirtual 27, 3) := by decide +kernel
theorem dX1_clearLift_61 : decode cX1_clearLift 61 = .ok (.aload_n 0, 1) := by decide +kernel
theorem dX1_clearLift_62 : decode cX1_clearLift 62 = .ok (.iload 4, 2) := by decide +kernel
theorem dX1_clearLift_64 : decode cX1_clearLift 64 = .ok (.invokevirtual 27, 3) := by decide +kernel
theorem dX1_clearLift_67 : decode cX1_clearLift 67 = .ok (.fsub, 1) := by decide +kernel
theorem dX1_clearLift_68 : decode cX1_clearLift 68 = .ok (.fstore 9, 2) := by decide +kernel
theorem dX1_clearLift_70 : decode cX1_clearLift 70 = .ok (.aload_n 0, 1) := by decide +kernel
theorem dX1_clearLift_71 : decode cX1_clearLift 71 = .ok (.iload_n 3, 1) := by decide +kernel
theorem dX1_clearLift_72 : decode cX1_clearLift 72 = .ok (.invokevirtual 31, 3) := by decide +kernel
theorem dX1_clearLift_75 : decode cX1_clearLift 75 = .ok (.aload_n 0, 1) := by decide +kernel
theorem dX1_clearLift_76 : decode cX1_clearLift 76 = .ok (.iload 4, 2) := by decide +kernel
theorem dX1_clearLift_78 : decode cX1_clearLift 78 = .ok (.invokevirtual 31, 3) := by decide +kernel
theorem dX1_clearLift_81 : decode cX1_clearLift 81 = .ok (.fsub, 1) := by decide +kernel
theorem dX1_clearLift_82 : decode cX1_clearLift 82 = .ok (.fstore 10, 2) := by decide +kernel
theorem dX1_clearLift_84 : decode cX1_clearLift 84 = .ok (.fload 5, 2) := by decide +kernel
theorem dX1_clearLift_86 : decode cX1_clearLift 86 = .ok (.fload 5, 2) := by decide +kernel
theorem dX1_clearLift_88 : decode cX1_clearLift 88 = .ok (.fmul, 1) := by decide +kernel
theorem dX1_clearLift_89 : decode cX1_clearLift 89 = .ok (.fload 6, 2) := by decide +kernel
theorem dX1_clearLift_91 : decode cX1_clearLift 91 = .ok (.fload 6, 2) := by decide +kernel
theorem dX1_clearLift_93 : decode cX1_clearLift 93 = .ok (.fmul, 1) := by decide +kernel
theorem dX1_clearLift_94 : decode cX1_clearLift 94 = .ok (.fadd, 1) := by decide +kernel
theorem dX1_clearLift_95 : decode cX1_clearLift 95 = .ok (.fstore 11, 2) := by decide +kernel
theorem dX1_clearLift_97 : decode cX1_clearLift 97 = .ok (.fload 7, 2) := by decide +kernel
theorem dX1_clearLift_99 : decode cX1_clearLift 99 = .ok (.fload 7, 2) := by decide +kernel
theorem dX1_clearLift_101 : decode cX1_clearLift 101 = .ok (.fmul, 1) := by decide +kernel
theorem dX1_clearLift_102 : decode cX1_clearLift 102 = .ok (.fload 8, 2) := by decide +kernel
theorem dX1_clearLift_104 : decode cX1_clearLift 104 = .ok (.fload 8, 2) := by decide +kernel
theorem dX1_clearLift_106 : decode cX1_clearLift 106 = .ok (.fmul, 1) := by decide +kernel
theorem dX1_clearLift_107 : decode cX1_clearLift 107 = .ok (.fadd, 1) := by decide +kernel
theorem dX1_clearLift_108 : decode cX1_clearLift 108 = .ok (.fstore 12, 2) := by decide +kernel
theorem dX1_clearLift_110 : decode cX1_clearLift 110 = .ok (.fload 9, 2) := by decide +kernel
theorem dX1_clearLift_112 : decode cX1_clearLift 112 = .ok (.fload 9, 2) := by decide +kernel
theorem dX1_clearLift_114 : decode cX1_clearLift 114 = .ok (.fmul, 1) := by decide +kernel
theorem dX1_clearLift_115 : decode cX1_clearLift 115 = .ok (.fload 10, 2) := by decide +kernel
theorem dX1_clearLift_117 : decode cX1_clearLift 117 = .ok (.fload 10, 2) := by decide +kernel
theorem dX1_clearLift_119 : decode cX1_clearLift 119 = .ok (.fmul, 1) := by decide +kernel
theorem dX1_clearLift_120 : decode cX1_clearLift 120 = .ok (.fadd, 1) := by decide +kernel
theorem dX1_clearLift_121 : decode cX1_clearLift 121 = .ok (.fstore 13, 2) := by decide +kernel
theorem dX1_clearLift_123 : decode cX1_clearLift 123 = .ok (.fload 11, 2) := by decide +kernel
theorem dX1_clearLift_125 : decode cX1_clearLift 125 = .ok (.fload 7, 2) := by decide +kernel
theorem dX1_clearLift_127 : decode cX1_clearLift 127 = .ok (.fload 10, 2) := by decide +kernel
theorem dX1_clearLift_129 : decode cX1_clearLift 129 = .ok (.fmul, 1) := by decide +kernel
theorem dX1_clearLift_130 : decode cX1_clearLift 130 = .ok (.fload 8, 2) := by decide +kernel
theorem dX1_clearLift_132 : decode cX1_clearLift 132 = .ok (.fload 9, 2) := by decide +kernel
theorem dX1_clearLift_134 : decode cX1_clearLift 134 = .ok (.fmul, 1) := by decide +kernel
theorem dX1_clearLift_135 : decode cX1_clearLift 135 = .ok (.fsub, 1) := by decide +kernel
theorem dX1_clearLift_136 : decode cX1_clearLift 136 = .ok (.fmul, 1) := by decide +kernel
theorem dX1_clearLift_137 : decode cX1_clearLift 137 = .ok (.fload 12, 2) := by decide +kernel
theorem dX1_clearLift_139 : decode cX1_clearLift 139 = .ok (.fload 9, 2) := by decide +kernel
theorem dX1_clearLift_141 : decode cX1_clearLift 141 = .ok (.fload 6, 2) := by decide +kernel
theorem dX1_clearLift_143 : decode cX1_clearLift 143 = .ok (.fmul, 1) := by decide +kernel
theorem dX1_clearLift_144 : decode cX1_clearLift 144 = .ok (.fload 10, 2) := by decide +kernel
theorem dX1_clearLift_146 : decode cX1_clearLift 146 = .ok (.fload 5, 2) := by decide +kernel
theorem dX1_clearLift_148 : decode cX1_clearLift 148 = .ok (.fmul, 1) := by decide +kernel
theorem dX1_clearLift_149 : decode cX1_clearLift 149 = .ok (.fsub, 1) := by decide +kernel
theorem dX1_clearLift_150 : decode cX1_clearLift 150 = .ok (.fmul, 1) := by decide +kernel
theorem dX1_clearLift_151 : decode cX1_clearLift 151 = .ok (.fadd, 1) := by decide +kernel
theorem dX1_clearLift_152 : decode cX1_clearLift 152 = .ok (.fload 13, 2) := by decide +kernel
theorem dX1_clearLift_154 : decode cX1_clearLift 154 = .ok (.fload 5, 2) := by decide +kernel
theorem dX1_clearLift_156 : decode cX1_clearLift 156 = .ok (.fload 8, 2) := by decide +kernel
theorem dX1_clearLift_158 : decode cX1_clearLift 158 = .ok (.fmul, 1) := by decide +kernel
theorem dX1_clearLift_159 : decode cX1_clearLift 159 = .ok (.fload 6, 2) := by decide +kernel
theorem dX1_clearLift_161 : decode cX1_clearLift 161 = .ok (.fload 7, 2) := by decide +kernel
theorem dX1_clearLift_163 : decode cX1_clearLift 163 = .ok (.fmul, 1) := by decide +kernel
theorem dX1_clearLift_164 : decode cX1_clearLift 164 = .ok (.fsub, 1) := by decide +kernel
theorem dX1_clearLift_165 : decode cX1_clearLift 165 = .ok (.fmul, 1) := by decide +kernel
theorem dX1_clearLift_166 : decode cX1_clearLift 166 = .ok (.fadd, 1) := by decide +kernel
theorem dX1_clearLift_167 : decode cX1_clearLift 167 = .ok (.fstore 14, 2) := by decide +kernel
theorem dX1_clearLift_169 : decode cX1_clearLift 169 = .ok (.aload_n 0, 1) := by decide +kernel
theorem dX1_clearLift_170 : decode cX1_clearLift 170 = .ok (.iload_n 1, 1) := by decide +kernel
theorem dX1_clearLift_171 : decode cX1_clearLift 171 = .ok (.iload_n 2, 1) := by decide +kernel
theorem dX1_clearLift_172 : decode cX1_clearLift 172 = .ok (.iload_n 3, 1) := by decide +kernel
theorem dX1_clearLift_173 : decode cX1_clearLift 173 = .ok (.invokevirtual 34, 3) := by decide +kernel
theorem dX1_clearLift_176 : decode cX1_clearLift 176 = .ok (.aload_n 0, 1) := by decide +kernel
theorem dX1_clearLift_177 : decode cX1_clearLift 177 = .ok (.iload 4, 2) := by decide +kernel
theorem dX1_clearLift_179 : decode cX1_clearLift 179 = .ok (.invokevirtual 43, 3) := by decide +kernel
theorem dX1_clearLift_182 : decode cX1_clearLift 182 = .ok (.invokestatic 46, 3) := by decide +kernel
theorem dX1_clearLift_185 : decode cX1_clearLift 185 = .ok (.fstore 15, 2) := by decide +kernel
theorem dX1_clearLift_187 : decode cX1_clearLift 187 = .ok (.fload 14, 2) := by decide +kernel
theorem dX1_clearLift_189 : decode cX1_clearLift 189 = .ok (.fload 15, 2) := by decide +kernel
theorem dX1_clearLift_191 : decode cX1_clearLift 191 = .ok (.fload 15, 2) := by decide +kernel
theorem dX1_clearLift_193 : decode cX1_clearLift 193 = .ok (.fmul, 1) := by decide +kernel
theorem dX1_clearLift_194 : decode cX1_clearLift 194 = .ok (.fload 15, 2) := by decide +kernel
theorem dX1_clearLift_196 : decode cX1_clearLift 196 = .ok (.fload 15, 2) := by decide +kernel
theorem dX1_clearLift_198 : decode cX1_clearLift 198 = .ok (.fmul, 1) := by decide +kernel
theorem dX1_clearLift_199 : decode cX1_clearLift 199 = .ok (.fmul, 1) := by decide +kernel
theorem dX1_clearLift_200 : decode cX1_clearLift 200 = .ok (.ldc 50, 2) := by decide +kernel
theorem dX1_clearLift_202 : decode cX1_clearLift 202 = .ok (.fmul, 1) := by decide +kernel
theorem dX1_clearLift_203 : decode cX1_clearLift 203 = .ok (.invokestatic 39, 3) := by decide +kernel
theorem dX1_clearLift_206 : decode cX1_clearLift 206 = .ok (.ireturn, 1) := by decide +kernel
theorem dX1_reachOfThree_0 : decode cX1_reachOfThree 0 = .ok (.aload_n 0, 1) := by decide +kernel
theorem dX1_reachOfThree_1 : decode cX1_reachOfThree 1 = .ok (.iload_n 1, 1) := by decide +kernel
theorem dX1_reachOfThree_2 : decode cX1_reachOfThree 2 = .ok (.invokevirtual 43, 3) := by decide +kernel
theorem dX1_reachOfThree_5 : decode cX1_reachOfThree 5 = .ok (.aload_n 0, 1) := by decide +kernel
theorem dX1_reachOfThree_6 : decode cX1_reachOfThree 6 = .ok (.iload_n 2, 1) := by decide +kernel
theorem dX1_reachOfThree_7 : decode cX1_reachOfThree 7 = .ok (.invokevirtual 43, 3) := by decide +kernel
theorem dX1_reachOfThree_10 : decode cX1_reachOfThree 10 = .ok (.invokestatic 46, 3) := by decide +kernel
theorem dX1_reachOfThree_13 : decode cX1_reachOfThree 13 = .ok (.aload_n 0, 1) := by decide +kernel
theorem dX1_reachOfThree_14 : decode cX1_reachOfThree 14 = .ok (.iload_n 3, 1) := by decide +kernel
theorem dX1_reachOfThree_15 : decode cX1_reachOfThree 15 = .ok (.invokevirtual 43, 3) := by decide +kernel
theorem dX1_reachOfThree_18 : decode cX1_reachOfThree 18 = .ok (.invokestatic 46, 3) := by decide +kernel
theorem dX1_reachOfThree_21 : decode cX1_reachOfThree 21 = .ok (.freturn, 1) := by decide +kernel
theorem dX1_reach_0 : decode cX1_reach 0 = .ok (.aload_n 0, 1) := by decide +kernel
theorem dX1_reach_1 : decode cX1_reach 1 = .ok (.iload_n 1, 1) := by decide +kernel
theorem dX1_reach_2 : decode cX1_reach 2 = .ok (.invokevirtual 27, 3) := by decide +kernel
theorem dX1_reach_5 : decode cX1_reach 5 = .ok (.invokestatic 51, 3) := by decide +kernel
theorem dX1_reach_8 : decode cX1_reach 8 = .ok (.aload_n 0, 1) := by decide +kernel
theorem dX1_reach_9 : decode cX1_reach 9 = .ok (.iload_n 1, 1) := by decide +kernel
theorem dX1_reach_10 : decode cX1_reach 10 = .ok (.invokevirtual 31, 3) := by decide +kernel
theorem dX1_reach_13 : decode cX1_reach 13 = .ok (.invokestatic 51, 3) := by decide +kernel
theorem dX1_reach_16 : decode cX1_reach 16 = .ok (.invokestatic 46, 3) := by decide +kernel
theorem dX1_reach_19 : decode cX1_reach 19 = .ok (.freturn, 1) := by decide +kernel
theorem dX1_clearSign_0 : decode cX1_clearSign 0 = .ok (.fload_n 0, 1) := by decide +kernel
theorem dX1_clearSign_1 : decode cX1_clearSign 1 = .ok (.invokestatic 51, 3) := by decide +kernel
theorem dX1_clearSign_4 : decode cX1_clearSign 4 = .ok (.fload_n 1, 1) := by decide +kernel
theorem dX1_clearSign_5 : decode cX1_clearSign 5 = .ok (.fcmp .l, 1) := by decide +kernel
theorem dX1_clearSign_6 : decode cX1_clearSign 6 = .ok (.ifCond .le 15, 3) := by decide +kernel
theorem dX1_clearSign_9 : decode cX1_clearSign 9 = .ok (.fload_n 0, 1) := by decide +kernel
theorem dX1_clearSign_10 : decode cX1_clearSign 10 = .ok (.fconst 0, 1) := by decide +kernel
theorem dX1_clearSign_11 : decode cX1_clearSign 11 = .ok (.fcmp .l, 1) := by decide +kernel
theorem dX1_clearSign_12 : decode cX1_clearSign 12 = .ok (.ifCond .le 7, 3) := by decide +kernel
theorem dX1_clearSign_15 : decode cX1_clearSign 15 = .ok (.iconst 1, 1) := by decide +kernel
theorem dX1_clearSign_16 : decode cX1_clearSign 16 = .ok (.goto 4, 3) := by decide +kernel
theorem dX1_clearSign_19 : decode cX1_clearSign 19 = .ok (.iconst (-1), 1) := by decide +kernel
theorem dX1_clearSign_20 : decode cX1_clearSign 20 = .ok (.ireturn, 1) := by decide +kernel
theorem dX1_clearSign_21 : decode cX1_clearSign 21 = .ok (.iconst 0, 1) := by decide +kernel
theorem dX1_clearSign_22 : decode cX1_clearSign 22 = .ok (.ireturn, 1) := by decide +kernel
theorem dX1_x_0 : decode cX1_x 0 = .ok (.aload_n 0, 1) := by decide +kernel
theorem dX1_x_1 : decode cX1_x 1 = .ok (.getfield 13, 3) := by decide +kernel
theorem dX1_x_4 : decode cX1_x 4 = .ok (.getfield 55, 3) := by decide +kernel
theorem dX1_x_7 : decode cX1_x 7 = .ok (.iload_n 1, 1) := by decide +kernel
theorem dX1_x_8 : decode cX1_x 8 = .ok (.iaload, 1) := by decide +kernel
theorem dX1_x_9 : decode cX1_x 9 = .ok (.i2f, 1) := by decide +kernel
theorem dX1_x_10 : decode cX1_x 10 = .ok (.ldc 61, 2) := by decide +kernel
theorem dX1_x_12 : decode cX1_x 12 = .ok (.fdiv, 1) := by decide +kernel
theorem dX1_x_13 : decode cX1_x 13 = .ok (.freturn, 1) := by decide +kernel
theorem dX1_y_0 : decode cX1_y 0 = .ok (.aload_n 0, 1) := by decide +kernel
theorem dX1_y_1 : decode cX1_y 1 = .ok (.getfield 13, 3) := by decide +kernel
theorem dX1_y_4 : decode cX1_y 4 = .ok (.getfield 62, 3) := by decide +kernel
theorem dX1_y_7 : decode cX1_y 7 = .ok (.iload_n 1, 1) := by decide +kernel
theorem dX1_y_8 : decode cX1_y 8 = .ok (.iaload, 1) := by decide +kernel
theorem dX1_y_9 : decode cX1_y 9 = .ok (.i2f, 1) := by decide +kernel
theorem dX1_y_10 : decode cX1_y 10 = .ok (.ldc 61, 2) := by decide +kernel
theorem dX1_y_12 : decode cX1_y 12 = .ok (.fdiv, 1) := by decide +kernel
theorem dX1_y_13 : decode cX1_y 13 = .ok (.freturn, 1) := by decide +kernel
theorem dX1_unsigned_0 : decode cX1_unsigned 0 = .ok (.fload_n 0, 1) := by decide +kernel
theorem dX1_unsigned_1 : decode cX1_unsigned 1 = .ok (.fconst 0, 1) := by decide +kernel
theorem dX1_unsigned_2 : decode cX1_unsigned 2 = .ok (.fcmp .g, 1) := by decide +kernel
theorem dX1_unsigned_3 : decode cX1_unsigned 3 = .ok (.ifCond .ge 8, 3) := by decide +kernel
theorem dX1_unsigned_6 : decode cX1_unsigned 6 = .ok (.fload_n 0, 1) := by decide +kernel
theorem dX1_unsigned_7 : decode cX1_unsigned 7 = .ok (.fneg, 1) := by decide +kernel
theorem dX1_unsigned_8 : decode cX1_unsigned 8 = .ok (.goto 4, 3) := by decide +kernel
theorem dX1_unsigned_11 : decode cX1_unsigned 11 = .ok (.fload_n 0, 1) := by decide +kernel
theorem dX1_unsigned_12 : decode cX1_unsigned 12 = .ok (.freturn, 1) := by decide +kernel
theorem dX1_larger_0 : decode cX1_larger 0 = .ok (.fload_n 0, 1) := by decide +kernel
theorem dX1_larger_1 : decode cX1_larger 1 = .ok (.fload_n 1, 1) := by decide +kernel
theorem dX1_larger_2 : decode cX1_larger 2 = .ok (.fcmp .l, 1) := by decide +kernel
theorem dX1_larger_3 : decode cX1_larger 3 = .ok (.ifCond .lt 7, 3) := by decide +kernel
theorem dX1_larger_6 : decode cX1_larger 6 = .ok (.fload_n 0, 1) := by decide +kernel
theorem dX1_larger_7 : decode cX1_larger 7 = .ok (.goto 4, 3) := by decide +kernel
theorem dX1_larger_10 : decode cX1_larger 10 = .ok (.fload_n 1, 1) := by decide +kernel
theorem dX1_larger_11 : decode cX1_larger 11 = .ok (.freturn, 1) := by decide +kernel
