theorem dX5_decidesRing_95 : decode cX5_decidesRing 95 = .ok (.fstore 11, 2) := by decide +kernel
theorem dX5_decidesRing_97 : decode cX5_decidesRing 97 = .ok (.fload 7, 2) := by decide +kernel
theorem dX5_decidesRing_99 : decode cX5_decidesRing 99 = .ok (.fload 7, 2) := by decide +kernel
theorem dX5_decidesRing_101 : decode cX5_decidesRing 101 = .ok (.fmul, 1) := by decide +kernel
theorem dX5_decidesRing_102 : decode cX5_decidesRing 102 = .ok (.fload 8, 2) := by decide +kernel
theorem dX5_decidesRing_104 : decode cX5_decidesRing 104 = .ok (.fload 8, 2) := by decide +kernel
theorem dX5_decidesRing_106 : decode cX5_decidesRing 106 = .ok (.fmul, 1) := by decide +kernel
theorem dX5_decidesRing_107 : decode cX5_decidesRing 107 = .ok (.fadd, 1) := by decide +kernel
theorem dX5_decidesRing_108 : decode cX5_decidesRing 108 = .ok (.fstore 12, 2) := by decide +kernel
theorem dX5_decidesRing_110 : decode cX5_decidesRing 110 = .ok (.fload 9, 2) := by decide +kernel
theorem dX5_decidesRing_112 : decode cX5_decidesRing 112 = .ok (.fload 9, 2) := by decide +kernel
theorem dX5_decidesRing_114 : decode cX5_decidesRing 114 = .ok (.fmul, 1) := by decide +kernel
theorem dX5_decidesRing_115 : decode cX5_decidesRing 115 = .ok (.fload 10, 2) := by decide +kernel
theorem dX5_decidesRing_117 : decode cX5_decidesRing 117 = .ok (.fload 10, 2) := by decide +kernel
theorem dX5_decidesRing_119 : decode cX5_decidesRing 119 = .ok (.fmul, 1) := by decide +kernel
theorem dX5_decidesRing_120 : decode cX5_decidesRing 120 = .ok (.fadd, 1) := by decide +kernel
theorem dX5_decidesRing_121 : decode cX5_decidesRing 121 = .ok (.fstore 13, 2) := by decide +kernel
theorem dX5_decidesRing_123 : decode cX5_decidesRing 123 = .ok (.fload 11, 2) := by decide +kernel
theorem dX5_decidesRing_125 : decode cX5_decidesRing 125 = .ok (.fload 7, 2) := by decide +kernel
theorem dX5_decidesRing_127 : decode cX5_decidesRing 127 = .ok (.fload 10, 2) := by decide +kernel
theorem dX5_decidesRing_129 : decode cX5_decidesRing 129 = .ok (.fmul, 1) := by decide +kernel
theorem dX5_decidesRing_130 : decode cX5_decidesRing 130 = .ok (.fload 8, 2) := by decide +kernel
theorem dX5_decidesRing_132 : decode cX5_decidesRing 132 = .ok (.fload 9, 2) := by decide +kernel
theorem dX5_decidesRing_134 : decode cX5_decidesRing 134 = .ok (.fmul, 1) := by decide +kernel
theorem dX5_decidesRing_135 : decode cX5_decidesRing 135 = .ok (.fsub, 1) := by decide +kernel
theorem dX5_decidesRing_136 : decode cX5_decidesRing 136 = .ok (.fmul, 1) := by decide +kernel
theorem dX5_decidesRing_137 : decode cX5_decidesRing 137 = .ok (.fload 12, 2) := by decide +kernel
theorem dX5_decidesRing_139 : decode cX5_decidesRing 139 = .ok (.fload 9, 2) := by decide +kernel
theorem dX5_decidesRing_141 : decode cX5_decidesRing 141 = .ok (.fload 6, 2) := by decide +kernel
theorem dX5_decidesRing_143 : decode cX5_decidesRing 143 = .ok (.fmul, 1) := by decide +kernel
theorem dX5_decidesRing_144 : decode cX5_decidesRing 144 = .ok (.fload 10, 2) := by decide +kernel
theorem dX5_decidesRing_146 : decode cX5_decidesRing 146 = .ok (.fload 5, 2) := by decide +kernel
theorem dX5_decidesRing_148 : decode cX5_decidesRing 148 = .ok (.fmul, 1) := by decide +kernel
theorem dX5_decidesRing_149 : decode cX5_decidesRing 149 = .ok (.fsub, 1) := by decide +kernel
theorem dX5_decidesRing_150 : decode cX5_decidesRing 150 = .ok (.fmul, 1) := by decide +kernel
theorem dX5_decidesRing_151 : decode cX5_decidesRing 151 = .ok (.fadd, 1) := by decide +kernel
theorem dX5_decidesRing_152 : decode cX5_decidesRing 152 = .ok (.fload 13, 2) := by decide +kernel
theorem dX5_decidesRing_154 : decode cX5_decidesRing 154 = .ok (.fload 5, 2) := by decide +kernel
theorem dX5_decidesRing_156 : decode cX5_decidesRing 156 = .ok (.fload 8, 2) := by decide +kernel
theorem dX5_decidesRing_158 : decode cX5_decidesRing 158 = .ok (.fmul, 1) := by decide +kernel
theorem dX5_decidesRing_159 : decode cX5_decidesRing 159 = .ok (.fload 6, 2) := by decide +kernel
theorem dX5_decidesRing_161 : decode cX5_decidesRing 161 = .ok (.fload 7, 2) := by decide +kernel
theorem dX5_decidesRing_163 : decode cX5_decidesRing 163 = .ok (.fmul, 1) := by decide +kernel
theorem dX5_decidesRing_164 : decode cX5_decidesRing 164 = .ok (.fsub, 1) := by decide +kernel
theorem dX5_decidesRing_165 : decode cX5_decidesRing 165 = .ok (.fmul, 1) := by decide +kernel
theorem dX5_decidesRing_166 : decode cX5_decidesRing 166 = .ok (.fadd, 1) := by decide +kernel
theorem dX5_decidesRing_167 : decode cX5_decidesRing 167 = .ok (.fstore 14, 2) := by decide +kernel
theorem dX5_decidesRing_169 : decode cX5_decidesRing 169 = .ok (.aload_n 0, 1) := by decide +kernel
theorem dX5_decidesRing_170 : decode cX5_decidesRing 170 = .ok (.iload_n 1, 1) := by decide +kernel
theorem dX5_decidesRing_171 : decode cX5_decidesRing 171 = .ok (.iload_n 2, 1) := by decide +kernel
theorem dX5_decidesRing_172 : decode cX5_decidesRing 172 = .ok (.iload_n 3, 1) := by decide +kernel
theorem dX5_decidesRing_173 : decode cX5_decidesRing 173 = .ok (.invokevirtual 92, 3) := by decide +kernel
theorem dX5_decidesRing_176 : decode cX5_decidesRing 176 = .ok (.aload_n 0, 1) := by decide +kernel
theorem dX5_decidesRing_177 : decode cX5_decidesRing 177 = .ok (.iload 4, 2) := by decide +kernel
theorem dX5_decidesRing_179 : decode cX5_decidesRing 179 = .ok (.invokevirtual 77, 3) := by decide +kernel
theorem dX5_decidesRing_182 : decode cX5_decidesRing 182 = .ok (.invokestatic 81, 3) := by decide +kernel
theorem dX5_decidesRing_185 : decode cX5_decidesRing 185 = .ok (.aload_n 0, 1) := by decide +kernel
theorem dX5_decidesRing_186 : decode cX5_decidesRing 186 = .ok (.iload 4, 2) := by decide +kernel
theorem dX5_decidesRing_188 : decode cX5_decidesRing 188 = .ok (.invokevirtual 85, 3) := by decide +kernel
theorem dX5_decidesRing_191 : decode cX5_decidesRing 191 = .ok (.invokestatic 81, 3) := by decide +kernel
theorem dX5_decidesRing_194 : decode cX5_decidesRing 194 = .ok (.invokestatic 88, 3) := by decide +kernel
theorem dX5_decidesRing_197 : decode cX5_decidesRing 197 = .ok (.invokestatic 88, 3) := by decide +kernel
theorem dX5_decidesRing_200 : decode cX5_decidesRing 200 = .ok (.fstore 15, 2) := by decide +kernel
theorem dX5_decidesRing_202 : decode cX5_decidesRing 202 = .ok (.fload 15, 2) := by decide +kernel
theorem dX5_decidesRing_204 : decode cX5_decidesRing 204 = .ok (.fload 15, 2) := by decide +kernel
theorem dX5_decidesRing_206 : decode cX5_decidesRing 206 = .ok (.fmul, 1) := by decide +kernel
theorem dX5_decidesRing_207 : decode cX5_decidesRing 207 = .ok (.fload 15, 2) := by decide +kernel
theorem dX5_decidesRing_209 : decode cX5_decidesRing 209 = .ok (.fload 15, 2) := by decide +kernel
theorem dX5_decidesRing_211 : decode cX5_decidesRing 211 = .ok (.fmul, 1) := by decide +kernel
theorem dX5_decidesRing_212 : decode cX5_decidesRing 212 = .ok (.fmul, 1) := by decide +kernel
theorem dX5_decidesRing_213 : decode cX5_decidesRing 213 = .ok (.ldc 97, 2) := by decide +kernel
theorem dX5_decidesRing_215 : decode cX5_decidesRing 215 = .ok (.fmul, 1) := by decide +kernel
theorem dX5_decidesRing_216 : decode cX5_decidesRing 216 = .ok (.fstore 16, 2) := by decide +kernel
theorem dX5_decidesRing_218 : decode cX5_decidesRing 218 = .ok (.fload 14, 2) := by decide +kernel
theorem dX5_decidesRing_220 : decode cX5_decidesRing 220 = .ok (.invokestatic 81, 3) := by decide +kernel
theorem dX5_decidesRing_223 : decode cX5_decidesRing 223 = .ok (.fload 16, 2) := by decide +kernel
theorem dX5_decidesRing_225 : decode cX5_decidesRing 225 = .ok (.fcmp .l, 1) := by decide +kernel
theorem dX5_decidesRing_226 : decode cX5_decidesRing 226 = .ok (.ifCond .le 7, 3) := by decide +kernel
theorem dX5_decidesRing_229 : decode cX5_decidesRing 229 = .ok (.iconst 1, 1) := by decide +kernel
theorem dX5_decidesRing_230 : decode cX5_decidesRing 230 = .ok (.goto 4, 3) := by decide +kernel
theorem dX5_decidesRing_233 : decode cX5_decidesRing 233 = .ok (.iconst 0, 1) := by decide +kernel
theorem dX5_decidesRing_234 : decode cX5_decidesRing 234 = .ok (.ireturn, 1) := by decide +kernel
theorem dX5_counted_0 : decode cX5_counted 0 = .ok (.aload_n 0, 1) := by decide +kernel
theorem dX5_counted_1 : decode cX5_counted 1 = .ok (.dup, 1) := by decide +kernel
theorem dX5_counted_2 : decode cX5_counted 2 = .ok (.getfield 98, 3) := by decide +kernel
theorem dX5_counted_5 : decode cX5_counted 5 = .ok (.aload_n 0, 1) := by decide +kernel
theorem dX5_counted_6 : decode cX5_counted 6 = .ok (.getfield 23, 3) := by decide +kernel
theorem dX5_counted_9 : decode cX5_counted 9 = .ok (.ifCond .eq 11, 3) := by decide +kernel
theorem dX5_counted_12 : decode cX5_counted 12 = .ok (.iload_n 1, 1) := by decide +kernel
theorem dX5_counted_13 : decode cX5_counted 13 = .ok (.ifCond .eq 7, 3) := by decide +kernel
theorem dX5_counted_16 : decode cX5_counted 16 = .ok (.iconst 1, 1) := by decide +kernel
theorem dX5_counted_17 : decode cX5_counted 17 = .ok (.goto 4, 3) := by decide +kernel
theorem dX5_counted_20 : decode cX5_counted 20 = .ok (.iconst 0, 1) := by decide +kernel
theorem dX5_counted_21 : decode cX5_counted 21 = .ok (.iadd, 1) := by decide +kernel
theorem dX5_counted_22 : decode cX5_counted 22 = .ok (.putfield 98, 3) := by decide +kernel
theorem dX5_counted_25 : decode cX5_counted 25 = .ok (.aload_n 0, 1) := by decide +kernel
theorem dX5_counted_26 : decode cX5_counted 26 = .ok (.dup, 1) := by decide +kernel
theorem dX5_counted_27 : decode cX5_counted 27 = .ok (.getfield 101, 3) := by decide +kernel
theorem dX5_counted_30 : decode cX5_counted 30 = .ok (.aload_n 0, 1) := by decide +kernel
theorem dX5_counted_31 : decode cX5_counted 31 = .ok (.getfield 23, 3) := by decide +kernel
theorem dX5_counted_34 : decode cX5_counted 34 = .ok (.ifCond .eq 11, 3) := by decide +kernel
theorem dX5_counted_37 : decode cX5_counted 37 = .ok (.iload_n 1, 1) := by decide +kernel
theorem dX5_counted_38 : decode cX5_counted 38 = .ok (.ifCond .eq 7, 3) := by decide +kernel
theorem dX5_counted_41 : decode cX5_counted 41 = .ok (.iconst 0, 1) := by decide +kernel
theorem dX5_counted_42 : decode cX5_counted 42 = .ok (.goto 4, 3) := by decide +kernel
theorem dX5_counted_45 : decode cX5_counted 45 = .ok (.iconst 1, 1) := by decide +kernel
theorem dX5_counted_46 : decode cX5_counted 46 = .ok (.iadd, 1) := by decide +kernel
theorem dX5_counted_47 : decode cX5_counted 47 = .ok (.putfield 101, 3) := by decide +kernel
theorem dX5_counted_50 : decode cX5_counted 50 = .ok (.aload_n 0, 1) := by decide +kernel
theorem dX5_counted_51 : decode cX5_counted 51 = .ok (.dup, 1) := by decide +kernel
theorem dX5_counted_52 : decode cX5_counted 52 = .ok (.getfield 104, 3) := by decide +kernel
theorem dX5_counted_55 : decode cX5_counted 55 = .ok (.iload_n 2, 1) := by decide +kernel
theorem dX5_counted_56 : decode cX5_counted 56 = .ok (.ifCond .ne 7, 3) := by decide +kernel
theorem dX5_counted_59 : decode cX5_counted 59 = .ok (.iconst 1, 1) := by decide +kernel
theorem dX5_counted_60 : decode cX5_counted 60 = .ok (.goto 4, 3) := by decide +kernel
theorem dX5_counted_63 : decode cX5_counted 63 = .ok (.iconst 0, 1) := by decide +kernel
theorem dX5_counted_64 : decode cX5_counted 64 = .ok (.iadd, 1) := by decide +kernel
theorem dX5_counted_65 : decode cX5_counted 65 = .ok (.putfield 104, 3) := by decide +kernel
theorem dX5_counted_68 : decode cX5_counted 68 = .ok (.iload_n 2, 1) := by decide +kernel
theorem dX5_counted_69 : decode cX5_counted 69 = .ok (.ireturn, 1) := by decide +kernel
theorem dX5_side_0 : decode cX5_side 0 = .ok (.aload_n 0, 1) := by decide +kernel
theorem dX5_side_1 : decode cX5_side 1 = .ok (.iconst 0, 1) := by decide +kernel
theorem dX5_side_2 : decode cX5_side 2 = .ok (.putfield 1, 3) := by decide +kernel
theorem dX5_side_5 : decode cX5_side 5 = .ok (.aload_n 0, 1) := by decide +kernel
theorem dX5_side_6 : decode cX5_side 6 = .ok (.iload_n 1, 1) := by decide +kernel
theorem dX5_side_7 : decode cX5_side 7 = .ok (.invokevirtual 69, 3) := by decide +kernel
theorem dX5_side_10 : decode cX5_side 10 = .ok (.ifCond .eq 19, 3) := by decide +kernel
theorem dX5_side_13 : decode cX5_side 13 = .ok (.aload_n 0, 1) := by decide +kernel
theorem dX5_side_14 : decode cX5_side 14 = .ok (.iload_n 2, 1) := by decide +kernel
theorem dX5_side_15 : decode cX5_side 15 = .ok (.invokevirtual 69, 3) := by decide +kernel
theorem dX5_side_18 : decode cX5_side 18 = .ok (.ifCond .eq 11, 3) := by decide +kernel
theorem dX5_side_21 : decode cX5_side 21 = .ok (.aload_n 0, 1) := by decide +kernel
theorem dX5_side_22 : decode cX5_side 22 = .ok (.iload_n 3, 1) := by decide +kernel
theorem dX5_side_23 : decode cX5_side 23 = .ok (.invokevirtual 69, 3) := by decide +kernel
theorem dX5_side_26 : decode cX5_side 26 = .ok (.ifCond .ne 6, 3) := by decide +kernel
theorem dX5_side_29 : decode cX5_side 29 = .ok (.bipush (-2), 2) := by decide +kernel
theorem dX5_side_31 : decode cX5_side 31 = .ok (.ireturn, 1) := by decide +kernel
theorem dX5_side_32 : decode cX5_side 32 = .ok (.aload_n 0, 1) := by decide +kernel
theorem dX5_side_33 : decode cX5_side 33 = .ok (.iload_n 1, 1) := by decide +kernel
theorem dX5_side_34 : decode cX5_side 34 = .ok (.iload_n 2, 1) := by decide +kernel
theorem dX5_side_35 : decode cX5_side 35 = .ok (.invokevirtual 107, 3) := by decide +kernel
theorem dX5_side_38 : decode cX5_side 38 = .ok (.ifCond .eq 8, 3) := by decide +kernel
theorem dX5_side_41 : decode cX5_side 41 = .ok (.bipush (-4), 2) := by decide +kernel
theorem dX5_side_43 : decode cX5_side 43 = .ok (.goto 21, 3) := by decide +kernel
theorem dX5_side_46 : decode cX5_side 46 = .ok (.aload_n 0, 1) := by decide +kernel
theorem dX5_side_47 : decode cX5_side 47 = .ok (.aload_n 0, 1) := by decide +kernel
theorem dX5_side_48 : decode cX5_side 48 = .ok (.iload_n 1, 1) := by decide +kernel
theorem dX5_side_49 : decode cX5_side 49 = .ok (.iload_n 2, 1) := by decide +kernel
theorem dX5_side_50 : decode cX5_side 50 = .ok (.iload_n 3, 1) := by decide +kernel
theorem dX5_side_51 : decode cX5_side 51 = .ok (.invokevirtual 111, 3) := by decide +kernel
theorem dX5_side_54 : decode cX5_side 54 = .ok (.aload_n 0, 1) := by decide +kernel
theorem dX5_side_55 : decode cX5_side 55 = .ok (.iload_n 1, 1) := by decide +kernel
theorem dX5_side_56 : decode cX5_side 56 = .ok (.iload_n 2, 1) := by decide +kernel
theorem dX5_side_57 : decode cX5_side 57 = .ok (.iload_n 3, 1) := by decide +kernel
theorem dX5_side_58 : decode cX5_side 58 = .ok (.invokevirtual 58, 3) := by decide +kernel
theorem dX5_side_61 : decode cX5_side 61 = .ok (.invokevirtual 115, 3) := by decide +kernel
theorem dX5_side_64 : decode cX5_side 64 = .ok (.ireturn, 1) := by decide +kernel
theorem dX5_circle_0 : decode cX5_circle 0 = .ok (.aload_n 0, 1) := by decide +kernel
theorem dX5_circle_1 : decode cX5_circle 1 = .ok (.iconst 0, 1) := by decide +kernel
theorem dX5_circle_2 : decode cX5_circle 2 = .ok (.putfield 1, 3) := by decide +kernel
theorem dX5_circle_5 : decode cX5_circle 5 = .ok (.aload_n 0, 1) := by decide +kernel
theorem dX5_circle_6 : decode cX5_circle 6 = .ok (.iload_n 1, 1) := by decide +kernel
theorem dX5_circle_7 : decode cX5_circle 7 = .ok (.invokevirtual 69, 3) := by decide +kernel
theorem dX5_circle_10 : decode cX5_circle 10 = .ok (.ifCond .eq 28, 3) := by decide +kernel
theorem dX5_circle_13 : decode cX5_circle 13 = .ok (.aload_n 0, 1) := by decide +kernel
theorem dX5_circle_14 : decode cX5_circle 14 = .ok (.iload_n 2, 1) := by decide +kernel
theorem dX5_circle_15 : decode cX5_circle 15 = .ok (.invokevirtual 69, 3) := by decide +kernel
theorem dX5_circle_18 : decode cX5_circle 18 = .ok (.ifCond .eq 20, 3) := by decide +kernel
theorem dX5_circle_21 : decode cX5_circle 21 = .ok (.aload_n 0, 1) := by decide +kernel
theorem dX5_circle_22 : decode cX5_circle 22 = .ok (.iload_n 3, 1) := by decide +kernel
theorem dX5_circle_23 : decode cX5_circle 23 = .ok (.invokevirtual 69, 3) := by decide +kernel
theorem dX5_circle_26 : decode cX5_circle 26 = .ok (.ifCond .eq 12, 3) := by decide +kernel
theorem dX5_circle_29 : decode cX5_circle 29 = .ok (.aload_n 0, 1) := by decide +kernel
theorem dX5_circle_30 : decode cX5_circle 30 = .ok (.iload 4, 2) := by decide +kernel
theorem dX5_circle_32 : decode cX5_circle 32 = .ok (.invokevirtual 69, 3) := by decide +kernel
theorem dX5_circle_35 : decode cX5_circle 35 = .ok (.ifCond .ne 6, 3) := by decide +kernel
theorem dX5_circle_38 : decode cX5_circle 38 = .ok (.bipush (-2), 2) := by decide +kernel
theorem dX5_circle_40 : decode cX5_circle 40 = .ok (.ireturn, 1) := by decide +kernel
theorem dX5_circle_41 : decode cX5_circle 41 = .ok (.aload_n 0, 1) := by decide +kernel
theorem dX5_circle_42 : decode cX5_circle 42 = .ok (.iload_n 1, 1) := by decide +kernel
theorem dX5_circle_43 : decode cX5_circle 43 = .ok (.iload_n 2, 1) := by decide +kernel
theorem dX5_circle_44 : decode cX5_circle 44 = .ok (.iload_n 3, 1) := by decide +kernel
theorem dX5_circle_45 : decode cX5_circle 45 = .ok (.invokevirtual 58, 3) := by decide +kernel
theorem dX5_circle_48 : decode cX5_circle 48 = .ok (.ifCond .ne 8, 3) := by decide +kernel
theorem dX5_circle_51 : decode cX5_circle 51 = .ok (.bipush (-4), 2) := by decide +kernel
theorem dX5_circle_53 : decode cX5_circle 53 = .ok (.goto 25, 3) := by decide +kernel
theorem dX5_circle_56 : decode cX5_circle 56 = .ok (.aload_n 0, 1) := by decide +kernel
theorem dX5_circle_57 : decode cX5_circle 57 = .ok (.aload_n 0, 1) := by decide +kernel
theorem dX5_circle_58 : decode cX5_circle 58 = .ok (.iload_n 1, 1) := by decide +kernel
theorem dX5_circle_59 : decode cX5_circle 59 = .ok (.iload_n 2, 1) := by decide +kernel
theorem dX5_circle_60 : decode cX5_circle 60 = .ok (.iload_n 3, 1) := by decide +kernel
theorem dX5_circle_61 : decode cX5_circle 61 = .ok (.iload 4, 2) := by decide +kernel
theorem dX5_circle_63 : decode cX5_circle 63 = .ok (.invokevirtual 119, 3) := by decide +kernel
theorem dX5_circle_66 : decode cX5_circle 66 = .ok (.aload_n 0, 1) := by decide +kernel
theorem dX5_circle_67 : decode cX5_circle 67 = .ok (.iload_n 1, 1) := by decide +kernel
theorem dX5_circle_68 : decode cX5_circle 68 = .ok (.iload_n 2, 1) := by decide +kernel
theorem dX5_circle_69 : decode cX5_circle 69 = .ok (.iload_n 3, 1) := by decide +kernel
theorem dX5_circle_70 : decode cX5_circle 70 = .ok (.iload 4, 2) := by decide +kernel
theorem dX5_circle_72 : decode cX5_circle 72 = .ok (.invokevirtual 123, 3) := by decide +kernel
theorem dX5_circle_75 : decode cX5_circle 75 = .ok (.invokevirtual 115, 3) := by decide +kernel
theorem dX5_circle_78 : decode cX5_circle 78 = .ok (.ireturn, 1) := by decide +kernel
theorem dX5_filter_0 : decode cX5_filter 0 = .ok (.aload_n 0, 1) := by decide +kernel
theorem dX5_filter_1 : decode cX5_filter 1 = .ok (.iconst 0, 1) := by decide +kernel
theorem dX5_filter_2 : decode cX5_filter 2 = .ok (.putfield 1, 3) := by decide +kernel
theorem dX5_filter_5 : decode cX5_filter 5 = .ok (.aload_n 0, 1) := by decide +kernel
theorem dX5_filter_6 : decode cX5_filter 6 = .ok (.getfield 23, 3) := by decide +kernel
theorem dX5_filter_9 : decode cX5_filter 9 = .ok (.ifCond .eq 7, 3) := by decide +kernel
theorem dX5_filter_12 : decode cX5_filter 12 = .ok (.iconst 1, 1) := by decide +kernel
theorem dX5_filter_13 : decode cX5_filter 13 = .ok (.goto 4, 3) := by decide +kernel
theorem dX5_filter_16 : decode cX5_filter 16 = .ok (.iconst 0, 1) := by decide +kernel
theorem dX5_filter_17 : decode cX5_filter 17 = .ok (.istore_n 2, 1) := by decide +kernel
theorem dX5_filter_18 : decode cX5_filter 18 = .ok (.aload_n 0, 1) := by decide +kernel
theorem dX5_filter_19 : decode cX5_filter 19 = .ok (.iload_n 1, 1) := by decide +kernel
theorem dX5_filter_20 : decode cX5_filter 20 = .ok (.putfield 23, 3) := by decide +kernel
theorem dX5_filter_23 : decode cX5_filter 23 = .ok (.iload_n 2, 1) := by decide +kernel
theorem dX5_filter_24 : decode cX5_filter 24 = .ok (.ireturn, 1) := by decide +kernel
theorem dX5_decided_0 : decode cX5_decided 0 = .ok (.aload_n 0, 1) := by decide +kernel
theorem dX5_decided_1 : decode cX5_decided 1 = .ok (.iconst 0, 1) := by decide +kernel
theorem dX5_decided_2 : decode cX5_decided 2 = .ok (.putfield 1, 3) := by decide +kernel
theorem dX5_decided_5 : decode cX5_decided 5 = .ok (.iload_n 1, 1) := by decide +kernel
theorem dX5_decided_6 : decode cX5_decided 6 = .ok (.ifCond .ne 10, 3) := by decide +kernel
theorem dX5_decided_9 : decode cX5_decided 9 = .ok (.aload_n 0, 1) := by decide +kernel
theorem dX5_decided_10 : decode cX5_decided 10 = .ok (.getfield 98, 3) := by decide +kernel
theorem dX5_decided_13 : decode cX5_decided 13 = .ok (.goto 29, 3) := by decide +kernel
theorem dX5_decided_16 : decode cX5_decided 16 = .ok (.iload_n 1, 1) := by decide +kernel
theorem dX5_decided_17 : decode cX5_decided 17 = .ok (.iconst 1, 1) := by decide +kernel
theorem dX5_decided_18 : decode cX5_decided 18 = .ok (.if_icmp .ne 10, 3) := by decide +kernel
theorem dX5_decided_21 : decode cX5_decided 21 = .ok (.aload_n 0, 1) := by decide +kernel
theorem dX5_decided_22 : decode cX5_decided 22 = .ok (.getfield 101, 3) := by decide +kernel
theorem dX5_decided_25 : decode cX5_decided 25 = .ok (.goto 17, 3) := by decide +kernel
theorem dX5_decided_28 : decode cX5_decided 28 = .ok (.iload_n 1, 1) := by decide +kernel
theorem dX5_decided_29 : decode cX5_decided 29 = .ok (.iconst 2, 1) := by decide +kernel
theorem dX5_decided_30 : decode cX5_decided 30 = .ok (.if_icmp .ne 10, 3) := by decide +kernel
theorem dX5_decided_33 : decode cX5_decided 33 = .ok (.aload_n 0, 1) := by decide +kernel
theorem dX5_decided_34 : decode cX5_decided 34 = .ok (.getfield 104, 3) := by decide +kernel
theorem dX5_decided_37 : decode cX5_decided 37 = .ok (.goto 5, 3) := by decide +kernel
theorem dX5_decided_40 : decode cX5_decided 40 = .ok (.bipush (-2), 2) := by decide +kernel
theorem dX5_decided_42 : decode cX5_decided 42 = .ok (.ireturn, 1) := by decide +kernel
theorem dX5_isOn_0 : decode cX5_isOn 0 = .ok (.aload_n 0, 1) := by decide +kernel
theorem dX5_isOn_1 : decode cX5_isOn 1 = .ok (.iload_n 1, 1) := by decide +kernel
theorem dX5_isOn_2 : decode cX5_isOn 2 = .ok (.iload_n 2, 1) := by decide +kernel
theorem dX5_isOn_3 : decode cX5_isOn 3 = .ok (.iload_n 3, 1) := by decide +kernel
theorem dX5_isOn_4 : decode cX5_isOn 4 = .ok (.invokevirtual 58, 3) := by decide +kernel
theorem dX5_isOn_7 : decode cX5_isOn 7 = .ok (.ifCond .ne 40, 3) := by decide +kernel
theorem dX5_isOn_10 : decode cX5_isOn 10 = .ok (.aload_n 0, 1) := by decide +kernel
theorem dX5_isOn_11 : decode cX5_isOn 11 = .ok (.iload_n 1, 1) := by decide +kernel
theorem dX5_isOn_12 : decode cX5_isOn 12 = .ok (.iload_n 2, 1) := by decide +kernel
theorem dX5_isOn_13 : decode cX5_isOn 13 = .ok (.invokevirtual 107, 3) := by decide +kernel
theorem dX5_isOn_16 : decode cX5_isOn 16 = .ok (.ifCond .eq 15, 3) := by decide +kernel
theorem dX5_isOn_19 : decode cX5_isOn 19 = .ok (.aload_n 0, 1) := by decide +kernel
theorem dX5_isOn_20 : decode cX5_isOn 20 = .ok (.iload_n 1, 1) := by decide +kernel
theorem dX5_isOn_21 : decode cX5_isOn 21 = .ok (.iload_n 3, 1) := by decide +kernel
theorem dX5_isOn_22 : decode cX5_isOn 22 = .ok (.invokevirtual 107, 3) := by decide +kernel
theorem dX5_isOn_25 : decode cX5_isOn 25 = .ok (.ifCond .eq 22, 3) := by decide +kernel
theorem dX5_isOn_28 : decode cX5_isOn 28 = .ok (.goto 15, 3) := by decide +kernel
theorem dX5_isOn_31 : decode cX5_isOn 31 = .ok (.aload_n 0, 1) := by decide +kernel
theorem dX5_isOn_32 : decode cX5_isOn 32 = .ok (.iload_n 3, 1) := by decide +kernel
theorem dX5_isOn_33 : decode cX5_isOn 33 = .ok (.iload_n 1, 1) := by decide +kernel
theorem dX5_isOn_34 : decode cX5_isOn 34 = .ok (.iload_n 2, 1) := by decide +kernel
theorem dX5_isOn_35 : decode cX5_isOn 35 = .ok (.invokevirtual 127, 3) := by decide +kernel
theorem dX5_isOn_38 : decode cX5_isOn 38 = .ok (.lconst 0, 1) := by decide +kernel
theorem dX5_isOn_39 : decode cX5_isOn 39 = .ok (.lcmp, 1) := by decide +kernel
theorem dX5_isOn_40 : decode cX5_isOn 40 = .ok (.ifCond .gt 7, 3) := by decide +kernel
theorem dX5_isOn_43 : decode cX5_isOn 43 = .ok (.iconst 1, 1) := by decide +kernel
theorem dX5_isOn_44 : decode cX5_isOn 44 = .ok (.goto 4, 3) := by decide +kernel
theorem dX5_isOn_47 : decode cX5_isOn 47 = .ok (.iconst 0, 1) := by decide +kernel
theorem dX5_isOn_48 : decode cX5_isOn 48 = .ok (.ireturn, 1) := by decide +kernel
theorem dX5_between_0 : decode cX5_between 0 = .ok (.aload_n 0, 1) := by decide +kernel
theorem dX5_between_1 : decode cX5_between 1 = .ok (.iconst 0, 1) := by decide +kernel
theorem dX5_between_2 : decode cX5_between 2 = .ok (.putfield 1, 3) := by decide +kernel
theorem dX5_between_5 : decode cX5_between 5 = .ok (.aload_n 0, 1) := by decide +kernel
theorem dX5_between_6 : decode cX5_between 6 = .ok (.iload_n 1, 1) := by decide +kernel
theorem dX5_between_7 : decode cX5_between 7 = .ok (.invokevirtual 69, 3) := by decide +kernel
theorem dX5_between_10 : decode cX5_between 10 = .ok (.ifCond .eq 19, 3) := by decide +kernel
theorem dX5_between_13 : decode cX5_between 13 = .ok (.aload_n 0, 1) := by decide +kernel
theorem dX5_between_14 : decode cX5_between 14 = .ok (.iload_n 2, 1) := by decide +kernel
theorem dX5_between_15 : decode cX5_between 15 = .ok (.invokevirtual 69, 3) := by decide +kernel
theorem dX5_between_18 : decode cX5_between 18 = .ok (.ifCond .eq 11, 3) := by decide +kernel
theorem dX5_between_21 : decode cX5_between 21 = .ok (.aload_n 0, 1) := by decide +kernel
theorem dX5_between_22 : decode cX5_between 22 = .ok (.iload_n 3, 1) := by decide +kernel
theorem dX5_between_23 : decode cX5_between 23 = .ok (.invokevirtual 69, 3) := by decide +kernel
theorem dX5_between_26 : decode cX5_between 26 = .ok (.ifCond .ne 6, 3) := by decide +kernel
theorem dX5_between_29 : decode cX5_between 29 = .ok (.bipush (-2), 2) := by decide +kernel
theorem dX5_between_31 : decode cX5_between 31 = .ok (.ireturn, 1) := by decide +kernel
theorem dX5_between_32 : decode cX5_between 32 = .ok (.aload_n 0, 1) := by decide +kernel
theorem dX5_between_33 : decode cX5_between 33 = .ok (.iload_n 1, 1) := by decide +kernel
theorem dX5_between_34 : decode cX5_between 34 = .ok (.iload_n 2, 1) := by decide +kernel
theorem dX5_between_35 : decode cX5_between 35 = .ok (.invokevirtual 107, 3) := by decide +kernel
theorem dX5_between_38 : decode cX5_between 38 = .ok (.ifCond .ne 12, 3) := by decide +kernel
theorem dX5_between_41 : decode cX5_between 41 = .ok (.aload_n 0, 1) := by decide +kernel
theorem dX5_between_42 : decode cX5_between 42 = .ok (.iload_n 2, 1) := by decide +kernel
theorem dX5_between_43 : decode cX5_between 43 = .ok (.iload_n 3, 1) := by decide +kernel
theorem dX5_between_44 : decode cX5_between 44 = .ok (.invokevirtual 107, 3) := by decide +kernel
theorem dX5_between_47 : decode cX5_between 47 = .ok (.ifCond .eq 7, 3) := by decide +kernel
theorem dX5_between_50 : decode cX5_between 50 = .ok (.iconst 2, 1) := by decide +kernel
theorem dX5_between_51 : decode cX5_between 51 = .ok (.goto 18, 3) := by decide +kernel
theorem dX5_between_54 : decode cX5_between 54 = .ok (.aload_n 0, 1) := by decide +kernel
theorem dX5_between_55 : decode cX5_between 55 = .ok (.iload_n 1, 1) := by decide +kernel
theorem dX5_between_56 : decode cX5_between 56 = .ok (.iload_n 3, 1) := by decide +kernel
theorem dX5_between_57 : decode cX5_between 57 = .ok (.iload_n 2, 1) := by decide +kernel
theorem dX5_between_58 : decode cX5_between 58 = .ok (.invokevirtual 131, 3) := by decide +kernel
theorem dX5_between_61 : decode cX5_between 61 = .ok (.ifCond .eq 7, 3) := by decide +kernel
theorem dX5_between_64 : decode cX5_between 64 = .ok (.iconst 1, 1) := by decide +kernel
theorem dX5_between_65 : decode cX5_between 65 = .ok (.goto 4, 3) := by decide +kernel
theorem dX5_between_68 : decode cX5_between 68 = .ok (.iconst 0, 1) := by decide +kernel
theorem dX5_between_69 : decode cX5_between 69 = .ok (.ireturn, 1) := by decide +kernel
theorem dX5_isOneWay_0 : decode cX5_isOneWay 0 = .ok (.aload_n 0, 1) := by decide +kernel
theorem dX5_isOneWay_1 : decode cX5_isOneWay 1 = .ok (.iload_n 1, 1) := by decide +kernel
theorem dX5_isOneWay_2 : decode cX5_isOneWay 2 = .ok (.iload_n 2, 1) := by decide +kernel
theorem dX5_isOneWay_3 : decode cX5_isOneWay 3 = .ok (.iload_n 3, 1) := by decide +kernel
theorem dX5_isOneWay_4 : decode cX5_isOneWay 4 = .ok (.invokevirtual 58, 3) := by decide +kernel
theorem dX5_isOneWay_7 : decode cX5_isOneWay 7 = .ok (.ifCond .ne 19, 3) := by decide +kernel
theorem dX5_isOneWay_10 : decode cX5_isOneWay 10 = .ok (.aload_n 0, 1) := by decide +kernel
theorem dX5_isOneWay_11 : decode cX5_isOneWay 11 = .ok (.iload_n 1, 1) := by decide +kernel
theorem dX5_isOneWay_12 : decode cX5_isOneWay 12 = .ok (.iload_n 2, 1) := by decide +kernel
theorem dX5_isOneWay_13 : decode cX5_isOneWay 13 = .ok (.iload_n 3, 1) := by decide +kernel
theorem dX5_isOneWay_14 : decode cX5_isOneWay 14 = .ok (.invokevirtual 127, 3) := by decide +kernel
theorem dX5_isOneWay_17 : decode cX5_isOneWay 17 = .ok (.lconst 0, 1) := by decide +kernel
theorem dX5_isOneWay_18 : decode cX5_isOneWay 18 = .ok (.lcmp, 1) := by decide +kernel
theorem dX5_isOneWay_19 : decode cX5_isOneWay 19 = .ok (.ifCond .le 7, 3) := by decide +kernel
theorem dX5_isOneWay_22 : decode cX5_isOneWay 22 = .ok (.iconst 1, 1) := by decide +kernel
theorem dX5_isOneWay_23 : decode cX5_isOneWay 23 = .ok (.goto 4, 3) := by decide +kernel
theorem dX5_isOneWay_26 : decode cX5_isOneWay 26 = .ok (.iconst 0, 1) := by decide +kernel
theorem dX5_isOneWay_27 : decode cX5_isOneWay 27 = .ok (.ireturn, 1) := by decide +kernel
theorem dX5_inside_0 : decode cX5_inside 0 = .ok (.aload_n 0, 1) := by decide +kernel
theorem dX5_inside_1 : decode cX5_inside 1 = .ok (.iconst 0, 1) := by decide +kernel
theorem dX5_inside_2 : decode cX5_inside 2 = .ok (.putfield 1, 3) := by decide +kernel
theorem dX5_inside_5 : decode cX5_inside 5 = .ok (.aload_n 0, 1) := by decide +kernel
theorem dX5_inside_6 : decode cX5_inside 6 = .ok (.iload_n 1, 1) := by decide +kernel
theorem dX5_inside_7 : decode cX5_inside 7 = .ok (.invokevirtual 69, 3) := by decide +kernel
theorem dX5_inside_10 : decode cX5_inside 10 = .ok (.ifCond .eq 28, 3) := by decide +kernel
theorem dX5_inside_13 : decode cX5_inside 13 = .ok (.aload_n 0, 1) := by decide +kernel
theorem dX5_inside_14 : decode cX5_inside 14 = .ok (.iload_n 2, 1) := by decide +kernel
theorem dX5_inside_15 : decode cX5_inside 15 = .ok (.invokevirtual 69, 3) := by decide +kernel
theorem dX5_inside_18 : decode cX5_inside 18 = .ok (.ifCond .eq 20, 3) := by decide +kernel
theorem dX5_inside_21 : decode cX5_inside 21 = .ok (.aload_n 0, 1) := by decide +kernel
theorem dX5_inside_22 : decode cX5_inside 22 = .ok (.iload_n 3, 1) := by decide +kernel
theorem dX5_inside_23 : decode cX5_inside 23 = .ok (.invokevirtual 69, 3) := by decide +kernel
theorem dX5_inside_26 : decode cX5_inside 26 = .ok (.ifCond .eq 12, 3) := by decide +kernel
theorem dX5_inside_29 : decode cX5_inside 29 = .ok (.aload_n 0, 1) := by decide +kernel
theorem dX5_inside_30 : decode cX5_inside 30 = .ok (.iload 4, 2) := by decide +kernel
theorem dX5_inside_32 : decode cX5_inside 32 = .ok (.invokevirtual 69, 3) := by decide +kernel
theorem dX5_inside_35 : decode cX5_inside 35 = .ok (.ifCond .ne 6, 3) := by decide +kernel
theorem dX5_inside_38 : decode cX5_inside 38 = .ok (.bipush (-2), 2) := by decide +kernel
theorem dX5_inside_40 : decode cX5_inside 40 = .ok (.ireturn, 1) := by decide +kernel
theorem dX5_inside_41 : decode cX5_inside 41 = .ok (.aload_n 0, 1) := by decide +kernel
theorem dX5_inside_42 : decode cX5_inside 42 = .ok (.iload_n 1, 1) := by decide +kernel
theorem dX5_inside_43 : decode cX5_inside 43 = .ok (.iload_n 2, 1) := by decide +kernel
theorem dX5_inside_44 : decode cX5_inside 44 = .ok (.invokevirtual 107, 3) := by decide +kernel
theorem dX5_inside_47 : decode cX5_inside 47 = .ok (.ifCond .ne 12, 3) := by decide +kernel
theorem dX5_inside_50 : decode cX5_inside 50 = .ok (.aload_n 0, 1) := by decide +kernel
theorem dX5_inside_51 : decode cX5_inside 51 = .ok (.iload_n 1, 1) := by decide +kernel
theorem dX5_inside_52 : decode cX5_inside 52 = .ok (.iload_n 3, 1) := by decide +kernel
theorem dX5_inside_53 : decode cX5_inside 53 = .ok (.invokevirtual 107, 3) := by decide +kernel
theorem dX5_inside_56 : decode cX5_inside 56 = .ok (.ifCond .eq 6, 3) := by decide +kernel
theorem dX5_inside_59 : decode cX5_inside 59 = .ok (.bipush (-4), 2) := by decide +kernel
theorem dX5_inside_61 : decode cX5_inside 61 = .ok (.ireturn, 1) := by decide +kernel
theorem dX5_inside_62 : decode cX5_inside 62 = .ok (.aload_n 0, 1) := by decide +kernel
theorem dX5_inside_63 : decode cX5_inside 63 = .ok (.iload_n 1, 1) := by decide +kernel
theorem dX5_inside_64 : decode cX5_inside 64 = .ok (.iload 4, 2) := by decide +kernel
theorem dX5_inside_66 : decode cX5_inside 66 = .ok (.invokevirtual 107, 3) := by decide +kernel
theorem dX5_inside_69 : decode cX5_inside 69 = .ok (.ifCond .ne 25, 3) := by decide +kernel
theorem dX5_inside_72 : decode cX5_inside 72 = .ok (.aload_n 0, 1) := by decide +kernel
theorem dX5_inside_73 : decode cX5_inside 73 = .ok (.iload_n 1, 1) := by decide +kernel
theorem dX5_inside_74 : decode cX5_inside 74 = .ok (.iload_n 2, 1) := by decide +kernel
theorem dX5_inside_75 : decode cX5_inside 75 = .ok (.iload 4, 2) := by decide +kernel
theorem dX5_inside_77 : decode cX5_inside 77 = .ok (.invokevirtual 133, 3) := by decide +kernel
theorem dX5_inside_80 : decode cX5_inside 80 = .ok (.ifCond .ne 14, 3) := by decide +kernel
theorem dX5_inside_83 : decode cX5_inside 83 = .ok (.aload_n 0, 1) := by decide +kernel
theorem dX5_inside_84 : decode cX5_inside 84 = .ok (.iload_n 1, 1) := by decide +kernel
theorem dX5_inside_85 : decode cX5_inside 85 = .ok (.iload_n 3, 1) := by decide +kernel
theorem dX5_inside_86 : decode cX5_inside 86 = .ok (.iload 4, 2) := by decide +kernel
theorem dX5_inside_88 : decode cX5_inside 88 = .ok (.invokevirtual 133, 3) := by decide +kernel
theorem dX5_inside_91 : decode cX5_inside 91 = .ok (.ifCond .eq 5, 3) := by decide +kernel
theorem dX5_inside_94 : decode cX5_inside 94 = .ok (.iconst 2, 1) := by decide +kernel
theorem dX5_inside_95 : decode cX5_inside 95 = .ok (.ireturn, 1) := by decide +kernel
theorem dX5_inside_96 : decode cX5_inside 96 = .ok (.aload_n 0, 1) := by decide +kernel
theorem dX5_inside_97 : decode cX5_inside 97 = .ok (.iload_n 1, 1) := by decide +kernel
theorem dX5_inside_98 : decode cX5_inside 98 = .ok (.iload_n 2, 1) := by decide +kernel
theorem dX5_inside_99 : decode cX5_inside 99 = .ok (.iload_n 3, 1) := by decide +kernel
theorem dX5_inside_100 : decode cX5_inside 100 = .ok (.invokevirtual 133, 3) := by decide +kernel
theorem dX5_inside_103 : decode cX5_inside 103 = .ok (.ifCond .eq 5, 3) := by decide +kernel
theorem dX5_inside_106 : decode cX5_inside 106 = .ok (.iconst 0, 1) := by decide +kernel
theorem dX5_inside_107 : decode cX5_inside 107 = .ok (.ireturn, 1) := by decide +kernel
theorem dX5_inside_108 : decode cX5_inside 108 = .ok (.aload_n 0, 1) := by decide +kernel
theorem dX5_inside_109 : decode cX5_inside 109 = .ok (.iload_n 1, 1) := by decide +kernel
theorem dX5_inside_110 : decode cX5_inside 110 = .ok (.iload_n 2, 1) := by decide +kernel
theorem dX5_inside_111 : decode cX5_inside 111 = .ok (.iload_n 3, 1) := by decide +kernel
theorem dX5_inside_112 : decode cX5_inside 112 = .ok (.invokevirtual 58, 3) := by decide +kernel
theorem dX5_inside_115 : decode cX5_inside 115 = .ok (.istore 5, 2) := by decide +kernel
theorem dX5_inside_117 : decode cX5_inside 117 = .ok (.iload 5, 2) := by decide +kernel
theorem dX5_inside_119 : decode cX5_inside 119 = .ok (.ifCond .ne 20, 3) := by decide +kernel
theorem dX5_inside_122 : decode cX5_inside 122 = .ok (.aload_n 0, 1) := by decide +kernel
theorem dX5_inside_123 : decode cX5_inside 123 = .ok (.iload_n 1, 1) := by decide +kernel
theorem dX5_inside_124 : decode cX5_inside 124 = .ok (.iload_n 2, 1) := by decide +kernel
theorem dX5_inside_125 : decode cX5_inside 125 = .ok (.iload 4, 2) := by decide +kernel
theorem dX5_inside_127 : decode cX5_inside 127 = .ok (.invokevirtual 58, 3) := by decide +kernel
theorem dX5_inside_130 : decode cX5_inside 130 = .ok (.ifCond .le 7, 3) := by decide +kernel
theorem dX5_inside_133 : decode cX5_inside 133 = .ok (.iconst 1, 1) := by decide +kernel
theorem dX5_inside_134 : decode cX5_inside 134 = .ok (.goto 4, 3) := by decide +kernel
theorem dX5_inside_137 : decode cX5_inside 137 = .ok (.iconst 0, 1) := by decide +kernel
theorem dX5_inside_138 : decode cX5_inside 138 = .ok (.ireturn, 1) := by decide +kernel
theorem dX5_inside_139 : decode cX5_inside 139 = .ok (.iload 5, 2) := by decide +kernel
theorem dX5_inside_141 : decode cX5_inside 141 = .ok (.ifCond .le 31, 3) := by decide +kernel
theorem dX5_inside_144 : decode cX5_inside 144 = .ok (.aload_n 0, 1) := by decide +kernel
theorem dX5_inside_145 : decode cX5_inside 145 = .ok (.iload_n 1, 1) := by decide +kernel
theorem dX5_inside_146 : decode cX5_inside 146 = .ok (.iload_n 2, 1) := by decide +kernel
theorem dX5_inside_147 : decode cX5_inside 147 = .ok (.iload 4, 2) := by decide +kernel
theorem dX5_inside_149 : decode cX5_inside 149 = .ok (.invokevirtual 58, 3) := by decide +kernel
theorem dX5_inside_152 : decode cX5_inside 152 = .ok (.ifCond .le 18, 3) := by decide +kernel
theorem dX5_inside_155 : decode cX5_inside 155 = .ok (.aload_n 0, 1) := by decide +kernel
theorem dX5_inside_156 : decode cX5_inside 156 = .ok (.iload_n 1, 1) := by decide +kernel
theorem dX5_inside_157 : decode cX5_inside 157 = .ok (.iload 4, 2) := by decide +kernel
theorem dX5_inside_159 : decode cX5_inside 159 = .ok (.iload_n 3, 1) := by decide +kernel
theorem dX5_inside_160 : decode cX5_inside 160 = .ok (.invokevirtual 58, 3) := by decide +kernel
theorem dX5_inside_163 : decode cX5_inside 163 = .ok (.ifCond .le 7, 3) := by decide +kernel
theorem dX5_inside_166 : decode cX5_inside 166 = .ok (.iconst 1, 1) := by decide +kernel
theorem dX5_inside_167 : decode cX5_inside 167 = .ok (.goto 4, 3) := by decide +kernel
theorem dX5_inside_170 : decode cX5_inside 170 = .ok (.iconst 0, 1) := by decide +kernel
theorem dX5_inside_171 : decode cX5_inside 171 = .ok (.ireturn, 1) := by decide +kernel
theorem dX5_inside_172 : decode cX5_inside 172 = .ok (.aload_n 0, 1) := by decide +kernel
theorem dX5_inside_173 : decode cX5_inside 173 = .ok (.iload_n 1, 1) := by decide +kernel
theorem dX5_inside_174 : decode cX5_inside 174 = .ok (.iload_n 3, 1) := by decide +kernel
theorem dX5_inside_175 : decode cX5_inside 175 = .ok (.iload 4, 2) := by decide +kernel
theorem dX5_inside_177 : decode cX5_inside 177 = .ok (.invokevirtual 58, 3) := by decide +kernel
theorem dX5_inside_180 : decode cX5_inside 180 = .ok (.ifCond .le 18, 3) := by decide +kernel
theorem dX5_inside_183 : decode cX5_inside 183 = .ok (.aload_n 0, 1) := by decide +kernel
theorem dX5_inside_184 : decode cX5_inside 184 = .ok (.iload_n 1, 1) := by decide +kernel
theorem dX5_inside_185 : decode cX5_inside 185 = .ok (.iload 4, 2) := by decide +kernel
theorem dX5_inside_187 : decode cX5_inside 187 = .ok (.iload_n 2, 1) := by decide +kernel
theorem dX5_inside_188 : decode cX5_inside 188 = .ok (.invokevirtual 58, 3) := by decide +kernel
theorem dX5_inside_191 : decode cX5_inside 191 = .ok (.ifCond .le 7, 3) := by decide +kernel
theorem dX5_inside_194 : decode cX5_inside 194 = .ok (.iconst 0, 1) := by decide +kernel
theorem dX5_inside_195 : decode cX5_inside 195 = .ok (.goto 4, 3) := by decide +kernel
theorem dX5_inside_198 : decode cX5_inside 198 = .ok (.iconst 1, 1) := by decide +kernel
theorem dX5_inside_199 : decode cX5_inside 199 = .ok (.ireturn, 1) := by decide +kernel
theorem dX5_common_0 : decode cX5_common 0 = .ok (.iconst 0, 1) := by decide +kernel
theorem dX5_common_1 : decode cX5_common 1 = .ok (.istore 5, 2) := by decide +kernel
theorem dX5_common_3 : decode cX5_common 3 = .ok (.aload_n 0, 1) := by decide +kernel
theorem dX5_common_4 : decode cX5_common 4 = .ok (.iload_n 1, 1) := by decide +kernel
theorem dX5_common_5 : decode cX5_common 5 = .ok (.iload_n 2, 1) := by decide +kernel
theorem dX5_common_6 : decode cX5_common 6 = .ok (.iload_n 3, 1) := by decide +kernel
theorem dX5_common_7 : decode cX5_common 7 = .ok (.invokevirtual 131, 3) := by decide +kernel
theorem dX5_common_10 : decode cX5_common 10 = .ok (.istore 6, 2) := by decide +kernel
theorem dX5_common_12 : decode cX5_common 12 = .ok (.aload_n 0, 1) := by decide +kernel
theorem dX5_common_13 : decode cX5_common 13 = .ok (.iload_n 1, 1) := by decide +kernel
theorem dX5_common_14 : decode cX5_common 14 = .ok (.iload_n 2, 1) := by decide +kernel
theorem dX5_common_15 : decode cX5_common 15 = .ok (.iload 4, 2) := by decide +kernel
theorem dX5_common_17 : decode cX5_common 17 = .ok (.invokevirtual 131, 3) := by decide +kernel
theorem dX5_common_20 : decode cX5_common 20 = .ok (.istore 7, 2) := by decide +kernel
theorem dX5_common_22 : decode cX5_common 22 = .ok (.aload_n 0, 1) := by decide +kernel
theorem dX5_common_23 : decode cX5_common 23 = .ok (.iload_n 3, 1) := by decide +kernel
theorem dX5_common_24 : decode cX5_common 24 = .ok (.iload 4, 2) := by decide +kernel
theorem dX5_common_26 : decode cX5_common 26 = .ok (.iload_n 1, 1) := by decide +kernel
theorem dX5_common_27 : decode cX5_common 27 = .ok (.invokevirtual 131, 3) := by decide +kernel
theorem dX5_common_30 : decode cX5_common 30 = .ok (.istore 8, 2) := by decide +kernel
theorem dX5_common_32 : decode cX5_common 32 = .ok (.aload_n 0, 1) := by decide +kernel
theorem dX5_common_33 : decode cX5_common 33 = .ok (.iload_n 3, 1) := by decide +kernel
theorem dX5_common_34 : decode cX5_common 34 = .ok (.iload 4, 2) := by decide +kernel
theorem dX5_common_36 : decode cX5_common 36 = .ok (.iload_n 2, 1) := by decide +kernel
theorem dX5_common_37 : decode cX5_common 37 = .ok (.invokevirtual 131, 3) := by decide +kernel
theorem dX5_common_40 : decode cX5_common 40 = .ok (.istore 9, 2) := by decide +kernel
theorem dX5_common_42 : decode cX5_common 42 = .ok (.iload 5, 2) := by decide +kernel
theorem dX5_common_44 : decode cX5_common 44 = .ok (.iload 6, 2) := by decide +kernel
theorem dX5_common_46 : decode cX5_common 46 = .ok (.ifCond .eq 7, 3) := by decide +kernel
theorem dX5_common_49 : decode cX5_common 49 = .ok (.iconst 1, 1) := by decide +kernel
theorem dX5_common_50 : decode cX5_common 50 = .ok (.goto 4, 3) := by decide +kernel
theorem dX5_common_53 : decode cX5_common 53 = .ok (.iconst 0, 1) := by decide +kernel
theorem dX5_common_54 : decode cX5_common 54 = .ok (.iadd, 1) := by decide +kernel
theorem dX5_common_55 : decode cX5_common 55 = .ok (.istore 5, 2) := by decide +kernel
theorem dX5_common_57 : decode cX5_common 57 = .ok (.iload 5, 2) := by decide +kernel
theorem dX5_common_59 : decode cX5_common 59 = .ok (.iload 7, 2) := by decide +kernel
theorem dX5_common_61 : decode cX5_common 61 = .ok (.ifCond .eq 17, 3) := by decide +kernel
theorem dX5_common_64 : decode cX5_common 64 = .ok (.aload_n 0, 1) := by decide +kernel
theorem dX5_common_65 : decode cX5_common 65 = .ok (.iload_n 3, 1) := by decide +kernel
theorem dX5_common_66 : decode cX5_common 66 = .ok (.iload 4, 2) := by decide +kernel
theorem dX5_common_68 : decode cX5_common 68 = .ok (.invokevirtual 107, 3) := by decide +kernel
theorem dX5_common_71 : decode cX5_common 71 = .ok (.ifCond .ne 7, 3) := by decide +kernel
theorem dX5_common_74 : decode cX5_common 74 = .ok (.iconst 1, 1) := by decide +kernel
theorem dX5_common_75 : decode cX5_common 75 = .ok (.goto 4, 3) := by decide +kernel
theorem dX5_common_78 : decode cX5_common 78 = .ok (.iconst 0, 1) := by decide +kernel
theorem dX5_common_79 : decode cX5_common 79 = .ok (.iadd, 1) := by decide +kernel
theorem dX5_common_80 : decode cX5_common 80 = .ok (.istore 5, 2) := by decide +kernel
theorem dX5_common_82 : decode cX5_common 82 = .ok (.iload 5, 2) := by decide +kernel
theorem dX5_common_84 : decode cX5_common 84 = .ok (.iload 8, 2) := by decide +kernel
theorem dX5_common_86 : decode cX5_common 86 = .ok (.ifCond .eq 26, 3) := by decide +kernel
theorem dX5_common_89 : decode cX5_common 89 = .ok (.aload_n 0, 1) := by decide +kernel
theorem dX5_common_90 : decode cX5_common 90 = .ok (.iload_n 1, 1) := by decide +kernel
theorem dX5_common_91 : decode cX5_common 91 = .ok (.iload_n 3, 1) := by decide +kernel
theorem dX5_common_92 : decode cX5_common 92 = .ok (.invokevirtual 107, 3) := by decide +kernel
theorem dX5_common_95 : decode cX5_common 95 = .ok (.ifCond .ne 17, 3) := by decide +kernel
theorem dX5_common_98 : decode cX5_common 98 = .ok (.aload_n 0, 1) := by decide +kernel
theorem dX5_common_99 : decode cX5_common 99 = .ok (.iload_n 1, 1) := by decide +kernel
theorem dX5_common_100 : decode cX5_common 100 = .ok (.iload 4, 2) := by decide +kernel
theorem dX5_common_102 : decode cX5_common 102 = .ok (.invokevirtual 107, 3) := by decide +kernel
theorem dX5_common_105 : decode cX5_common 105 = .ok (.ifCond .ne 7, 3) := by decide +kernel
theorem dX5_common_108 : decode cX5_common 108 = .ok (.iconst 1, 1) := by decide +kernel
theorem dX5_common_109 : decode cX5_common 109 = .ok (.goto 4, 3) := by decide +kernel
theorem dX5_common_112 : decode cX5_common 112 = .ok (.iconst 0, 1) := by decide +kernel
theorem dX5_common_113 : decode cX5_common 113 = .ok (.iadd, 1) := by decide +kernel
theorem dX5_common_114 : decode cX5_common 114 = .ok (.istore 5, 2) := by decide +kernel
theorem dX5_common_116 : decode cX5_common 116 = .ok (.iload 5, 2) := by decide +kernel
theorem dX5_common_118 : decode cX5_common 118 = .ok (.iload 9, 2) := by decide +kernel
theorem dX5_common_120 : decode cX5_common 120 = .ok (.ifCond .eq 35, 3) := by decide +kernel
theorem dX5_common_123 : decode cX5_common 123 = .ok (.aload_n 0, 1) := by decide +kernel
theorem dX5_common_124 : decode cX5_common 124 = .ok (.iload_n 2, 1) := by decide +kernel
theorem dX5_common_125 : decode cX5_common 125 = .ok (.iload_n 3, 1) := by decide +kernel
theorem dX5_common_126 : decode cX5_common 126 = .ok (.invokevirtual 107, 3) := by decide +kernel
theorem dX5_common_129 : decode cX5_common 129 = .ok (.ifCond .ne 26, 3) := by decide +kernel
theorem dX5_common_132 : decode cX5_common 132 = .ok (.aload_n 0, 1) := by decide +kernel
theorem dX5_common_133 : decode cX5_common 133 = .ok (.iload_n 2, 1) := by decide +kernel
theorem dX5_common_134 : decode cX5_common 134 = .ok (.iload 4, 2) := by decide +kernel
theorem dX5_common_136 : decode cX5_common 136 = .ok (.invokevirtual 107, 3) := by decide +kernel
theorem dX5_common_139 : decode cX5_common 139 = .ok (.ifCond .ne 16, 3) := by decide +kernel
theorem dX5_common_142 : decode cX5_common 142 = .ok (.aload_n 0, 1) := by decide +kernel
theorem dX5_common_143 : decode cX5_common 143 = .ok (.iload_n 1, 1) := by decide +kernel
theorem dX5_common_144 : decode cX5_common 144 = .ok (.iload_n 2, 1) := by decide +kernel
theorem dX5_common_145 : decode cX5_common 145 = .ok (.invokevirtual 107, 3) := by decide +kernel
theorem dX5_common_148 : decode cX5_common 148 = .ok (.ifCond .ne 7, 3) := by decide +kernel
theorem dX5_common_151 : decode cX5_common 151 = .ok (.iconst 1, 1) := by decide +kernel
theorem dX5_common_152 : decode cX5_common 152 = .ok (.goto 4, 3) := by decide +kernel
theorem dX5_common_155 : decode cX5_common 155 = .ok (.iconst 0, 1) := by decide +kernel
theorem dX5_common_156 : decode cX5_common 156 = .ok (.iadd, 1) := by decide +kernel
theorem dX5_common_157 : decode cX5_common 157 = .ok (.istore 5, 2) := by decide +kernel
theorem dX5_common_159 : decode cX5_common 159 = .ok (.iload 5, 2) := by decide +kernel
theorem dX5_common_161 : decode cX5_common 161 = .ok (.iconst 1, 1) := by decide +kernel
theorem dX5_common_162 : decode cX5_common 162 = .ok (.if_icmp .le 7, 3) := by decide +kernel
theorem dX5_common_165 : decode cX5_common 165 = .ok (.iconst 2, 1) := by decide +kernel
theorem dX5_common_166 : decode cX5_common 166 = .ok (.goto 5, 3) := by decide +kernel
theorem dX5_common_169 : decode cX5_common 169 = .ok (.iload 5, 2) := by decide +kernel
theorem dX5_common_171 : decode cX5_common 171 = .ok (.ireturn, 1) := by decide +kernel
theorem dX5_cross_0 : decode cX5_cross 0 = .ok (.aload_n 0, 1) := by decide +kernel
theorem dX5_cross_1 : decode cX5_cross 1 = .ok (.iconst 0, 1) := by decide +kernel
theorem dX5_cross_2 : decode cX5_cross 2 = .ok (.putfield 1, 3) := by decide +kernel
theorem dX5_cross_5 : decode cX5_cross 5 = .ok (.aload_n 0, 1) := by decide +kernel
theorem dX5_cross_6 : decode cX5_cross 6 = .ok (.iload_n 1, 1) := by decide +kernel
theorem dX5_cross_7 : decode cX5_cross 7 = .ok (.invokevirtual 69, 3) := by decide +kernel
theorem dX5_cross_10 : decode cX5_cross 10 = .ok (.ifCond .eq 28, 3) := by decide +kernel
theorem dX5_cross_13 : decode cX5_cross 13 = .ok (.aload_n 0, 1) := by decide +kernel
theorem dX5_cross_14 : decode cX5_cross 14 = .ok (.iload_n 2, 1) := by decide +kernel
theorem dX5_cross_15 : decode cX5_cross 15 = .ok (.invokevirtual 69, 3) := by decide +kernel
theorem dX5_cross_18 : decode cX5_cross 18 = .ok (.ifCond .eq 20, 3) := by decide +kernel
theorem dX5_cross_21 : decode cX5_cross 21 = .ok (.aload_n 0, 1) := by decide +kernel
theorem dX5_cross_22 : decode cX5_cross 22 = .ok (.iload_n 3, 1) := by decide +kernel
theorem dX5_cross_23 : decode cX5_cross 23 = .ok (.invokevirtual 69, 3) := by decide +kernel
theorem dX5_cross_26 : decode cX5_cross 26 = .ok (.ifCond .eq 12, 3) := by decide +kernel
theorem dX5_cross_29 : decode cX5_cross 29 = .ok (.aload_n 0, 1) := by decide +kernel
theorem dX5_cross_30 : decode cX5_cross 30 = .ok (.iload 4, 2) := by decide +kernel
theorem dX5_cross_32 : decode cX5_cross 32 = .ok (.invokevirtual 69, 3) := by decide +kernel
theorem dX5_cross_35 : decode cX5_cross 35 = .ok (.ifCond .ne 6, 3) := by decide +kernel
theorem dX5_cross_38 : decode cX5_cross 38 = .ok (.bipush (-2), 2) := by decide +kernel
theorem dX5_cross_40 : decode cX5_cross 40 = .ok (.ireturn, 1) := by decide +kernel
theorem dX5_cross_41 : decode cX5_cross 41 = .ok (.aload_n 0, 1) := by decide +kernel
theorem dX5_cross_42 : decode cX5_cross 42 = .ok (.iload_n 1, 1) := by decide +kernel
theorem dX5_cross_43 : decode cX5_cross 43 = .ok (.iload_n 2, 1) := by decide +kernel
theorem dX5_cross_44 : decode cX5_cross 44 = .ok (.iload_n 3, 1) := by decide +kernel
theorem dX5_cross_45 : decode cX5_cross 45 = .ok (.invokevirtual 58, 3) := by decide +kernel
theorem dX5_cross_48 : decode cX5_cross 48 = .ok (.istore 5, 2) := by decide +kernel
theorem dX5_cross_50 : decode cX5_cross 50 = .ok (.aload_n 0, 1) := by decide +kernel
theorem dX5_cross_51 : decode cX5_cross 51 = .ok (.iload_n 1, 1) := by decide +kernel
theorem dX5_cross_52 : decode cX5_cross 52 = .ok (.iload_n 2, 1) := by decide +kernel
theorem dX5_cross_53 : decode cX5_cross 53 = .ok (.iload 4, 2) := by decide +kernel
theorem dX5_cross_55 : decode cX5_cross 55 = .ok (.invokevirtual 58, 3) := by decide +kernel
theorem dX5_cross_58 : decode cX5_cross 58 = .ok (.istore 6, 2) := by decide +kernel
theorem dX5_cross_60 : decode cX5_cross 60 = .ok (.aload_n 0, 1) := by decide +kernel
theorem dX5_cross_61 : decode cX5_cross 61 = .ok (.iload_n 3, 1) := by decide +kernel
theorem dX5_cross_62 : decode cX5_cross 62 = .ok (.iload 4, 2) := by decide +kernel
theorem dX5_cross_64 : decode cX5_cross 64 = .ok (.iload_n 1, 1) := by decide +kernel
theorem dX5_cross_65 : decode cX5_cross 65 = .ok (.invokevirtual 58, 3) := by decide +kernel
theorem dX5_cross_68 : decode cX5_cross 68 = .ok (.istore 7, 2) := by decide +kernel
theorem dX5_cross_70 : decode cX5_cross 70 = .ok (.aload_n 0, 1) := by decide +kernel
theorem dX5_cross_71 : decode cX5_cross 71 = .ok (.iload_n 3, 1) := by decide +kernel
theorem dX5_cross_72 : decode cX5_cross 72 = .ok (.iload 4, 2) := by decide +kernel
theorem dX5_cross_74 : decode cX5_cross 74 = .ok (.iload_n 2, 1) := by decide +kernel
theorem dX5_cross_75 : decode cX5_cross 75 = .ok (.invokevirtual 58, 3) := by decide +kernel
theorem dX5_cross_78 : decode cX5_cross 78 = .ok (.istore 8, 2) := by decide +kernel
theorem dX5_cross_80 : decode cX5_cross 80 = .ok (.iload 5, 2) := by decide +kernel
theorem dX5_cross_82 : decode cX5_cross 82 = .ok (.ifCond .ne 22, 3) := by decide +kernel
theorem dX5_cross_85 : decode cX5_cross 85 = .ok (.iload 6, 2) := by decide +kernel
theorem dX5_cross_87 : decode cX5_cross 87 = .ok (.ifCond .ne 17, 3) := by decide +kernel
theorem dX5_cross_90 : decode cX5_cross 90 = .ok (.iload 7, 2) := by decide +kernel
theorem dX5_cross_92 : decode cX5_cross 92 = .ok (.ifCond .ne 12, 3) := by decide +kernel
theorem dX5_cross_95 : decode cX5_cross 95 = .ok (.iload 8, 2) := by decide +kernel
theorem dX5_cross_97 : decode cX5_cross 97 = .ok (.ifCond .ne 7, 3) := by decide +kernel
theorem dX5_cross_100 : decode cX5_cross 100 = .ok (.iconst 1, 1) := by decide +kernel
theorem dX5_cross_101 : decode cX5_cross 101 = .ok (.goto 4, 3) := by decide +kernel
theorem dX5_cross_104 : decode cX5_cross 104 = .ok (.iconst 0, 1) := by decide +kernel
theorem dX5_cross_105 : decode cX5_cross 105 = .ok (.istore 9, 2) := by decide +kernel
theorem dX5_cross_107 : decode cX5_cross 107 = .ok (.iload 9, 2) := by decide +kernel
theorem dX5_cross_109 : decode cX5_cross 109 = .ok (.ifCond .eq 36, 3) := by decide +kernel
theorem dX5_cross_112 : decode cX5_cross 112 = .ok (.aload_n 0, 1) := by decide +kernel
theorem dX5_cross_113 : decode cX5_cross 113 = .ok (.iload_n 1, 1) := by decide +kernel
theorem dX5_cross_114 : decode cX5_cross 114 = .ok (.iload_n 2, 1) := by decide +kernel
theorem dX5_cross_115 : decode cX5_cross 115 = .ok (.iload_n 3, 1) := by decide +kernel
theorem dX5_cross_116 : decode cX5_cross 116 = .ok (.iload 4, 2) := by decide +kernel
theorem dX5_cross_118 : decode cX5_cross 118 = .ok (.invokevirtual 136, 3) := by decide +kernel
theorem dX5_cross_121 : decode cX5_cross 121 = .ok (.istore 10, 2) := by decide +kernel
theorem dX5_cross_123 : decode cX5_cross 123 = .ok (.iload 10, 2) := by decide +kernel
theorem dX5_cross_125 : decode cX5_cross 125 = .ok (.iconst 2, 1) := by decide +kernel
theorem dX5_cross_126 : decode cX5_cross 126 = .ok (.if_icmp .ne 7, 3) := by decide +kernel
theorem dX5_cross_129 : decode cX5_cross 129 = .ok (.iconst 3, 1) := by decide +kernel
theorem dX5_cross_130 : decode cX5_cross 130 = .ok (.goto 14, 3) := by decide +kernel
theorem dX5_cross_133 : decode cX5_cross 133 = .ok (.iload 10, 2) := by decide +kernel
theorem dX5_cross_135 : decode cX5_cross 135 = .ok (.iconst 1, 1) := by decide +kernel
theorem dX5_cross_136 : decode cX5_cross 136 = .ok (.if_icmp .ne 7, 3) := by decide +kernel
theorem dX5_cross_139 : decode cX5_cross 139 = .ok (.iconst 2, 1) := by decide +kernel
theorem dX5_cross_140 : decode cX5_cross 140 = .ok (.goto 4, 3) := by decide +kernel
theorem dX5_cross_143 : decode cX5_cross 143 = .ok (.iconst 0, 1) := by decide +kernel
theorem dX5_cross_144 : decode cX5_cross 144 = .ok (.ireturn, 1) := by decide +kernel
theorem dX5_cross_145 : decode cX5_cross 145 = .ok (.iload 5, 2) := by decide +kernel
theorem dX5_cross_147 : decode cX5_cross 147 = .ok (.iload 6, 2) := by decide +kernel
theorem dX5_cross_149 : decode cX5_cross 149 = .ok (.imul, 1) := by decide +kernel
theorem dX5_cross_150 : decode cX5_cross 150 = .ok (.ifCond .ge 13, 3) := by decide +kernel
theorem dX5_cross_153 : decode cX5_cross 153 = .ok (.iload 7, 2) := by decide +kernel
theorem dX5_cross_155 : decode cX5_cross 155 = .ok (.iload 8, 2) := by decide +kernel
theorem dX5_cross_157 : decode cX5_cross 157 = .ok (.imul, 1) := by decide +kernel
theorem dX5_cross_158 : decode cX5_cross 158 = .ok (.ifCond .ge 5, 3) := by decide +kernel
theorem dX5_cross_161 : decode cX5_cross 161 = .ok (.iconst 1, 1) := by decide +kernel
theorem dX5_cross_162 : decode cX5_cross 162 = .ok (.ireturn, 1) := by decide +kernel
theorem dX5_cross_163 : decode cX5_cross 163 = .ok (.aload_n 0, 1) := by decide +kernel
theorem dX5_cross_164 : decode cX5_cross 164 = .ok (.iload_n 1, 1) := by decide +kernel
theorem dX5_cross_165 : decode cX5_cross 165 = .ok (.iload_n 2, 1) := by decide +kernel
theorem dX5_cross_166 : decode cX5_cross 166 = .ok (.iload_n 3, 1) := by decide +kernel
theorem dX5_cross_167 : decode cX5_cross 167 = .ok (.invokevirtual 131, 3) := by decide +kernel
theorem dX5_cross_170 : decode cX5_cross 170 = .ok (.ifCond .ne 36, 3) := by decide +kernel
theorem dX5_cross_173 : decode cX5_cross 173 = .ok (.aload_n 0, 1) := by decide +kernel
theorem dX5_cross_174 : decode cX5_cross 174 = .ok (.iload_n 1, 1) := by decide +kernel
theorem dX5_cross_175 : decode cX5_cross 175 = .ok (.iload_n 2, 1) := by decide +kernel
theorem dX5_cross_176 : decode cX5_cross 176 = .ok (.iload 4, 2) := by decide +kernel
theorem dX5_cross_178 : decode cX5_cross 178 = .ok (.invokevirtual 131, 3) := by decide +kernel
theorem dX5_cross_181 : decode cX5_cross 181 = .ok (.ifCond .ne 25, 3) := by decide +kernel
theorem dX5_cross_184 : decode cX5_cross 184 = .ok (.aload_n 0, 1) := by decide +kernel
theorem dX5_cross_185 : decode cX5_cross 185 = .ok (.iload_n 3, 1) := by decide +kernel
theorem dX5_cross_186 : decode cX5_cross 186 = .ok (.iload 4, 2) := by decide +kernel
theorem dX5_cross_188 : decode cX5_cross 188 = .ok (.iload_n 1, 1) := by decide +kernel
theorem dX5_cross_189 : decode cX5_cross 189 = .ok (.invokevirtual 131, 3) := by decide +kernel
theorem dX5_cross_192 : decode cX5_cross 192 = .ok (.ifCond .ne 14, 3) := by decide +kernel
theorem dX5_cross_195 : decode cX5_cross 195 = .ok (.aload_n 0, 1) := by decide +kernel
theorem dX5_cross_196 : decode cX5_cross 196 = .ok (.iload_n 3, 1) := by decide +kernel
theorem dX5_cross_197 : decode cX5_cross 197 = .ok (.iload 4, 2) := by decide +kernel
theorem dX5_cross_199 : decode cX5_cross 199 = .ok (.iload_n 2, 1) := by decide +kernel
theorem dX5_cross_200 : decode cX5_cross 200 = .ok (.invokevirtual 131, 3) := by decide +kernel
theorem dX5_cross_203 : decode cX5_cross 203 = .ok (.ifCond .eq 7, 3) := by decide +kernel
theorem dX5_cross_206 : decode cX5_cross 206 = .ok (.iconst 2, 1) := by decide +kernel
theorem dX5_cross_207 : decode cX5_cross 207 = .ok (.goto 4, 3) := by decide +kernel
theorem dX5_cross_210 : decode cX5_cross 210 = .ok (.iconst 0, 1) := by decide +kernel
theorem dX5_cross_211 : decode cX5_cross 211 = .ok (.ireturn, 1) := by decide +kernel
theorem dX5_separated_0 : decode cX5_separated 0 = .ok (.aload_n 0, 1) := by decide +kernel
theorem dX5_separated_1 : decode cX5_separated 1 = .ok (.iconst 0, 1) := by decide +kernel
theorem dX5_separated_2 : decode cX5_separated 2 = .ok (.putfield 1, 3) := by decide +kernel
theorem dX5_separated_5 : decode cX5_separated 5 = .ok (.aload_n 0, 1) := by decide +kernel
theorem dX5_separated_6 : decode cX5_separated 6 = .ok (.iload_n 1, 1) := by decide +kernel
theorem dX5_separated_7 : decode cX5_separated 7 = .ok (.invokevirtual 69, 3) := by decide +kernel
theorem dX5_separated_10 : decode cX5_separated 10 = .ok (.ifCond .eq 28, 3) := by decide +kernel
theorem dX5_separated_13 : decode cX5_separated 13 = .ok (.aload_n 0, 1) := by decide +kernel
theorem dX5_separated_14 : decode cX5_separated 14 = .ok (.iload_n 2, 1) := by decide +kernel
theorem dX5_separated_15 : decode cX5_separated 15 = .ok (.invokevirtual 69, 3) := by decide +kernel
theorem dX5_separated_18 : decode cX5_separated 18 = .ok (.ifCond .eq 20, 3) := by decide +kernel
theorem dX5_separated_21 : decode cX5_separated 21 = .ok (.aload_n 0, 1) := by decide +kernel
theorem dX5_separated_22 : decode cX5_separated 22 = .ok (.iload_n 3, 1) := by decide +kernel
theorem dX5_separated_23 : decode cX5_separated 23 = .ok (.invokevirtual 69, 3) := by decide +kernel
theorem dX5_separated_26 : decode cX5_separated 26 = .ok (.ifCond .eq 12, 3) := by decide +kernel
theorem dX5_separated_29 : decode cX5_separated 29 = .ok (.aload_n 0, 1) := by decide +kernel
theorem dX5_separated_30 : decode cX5_separated 30 = .ok (.iload 4, 2) := by decide +kernel
theorem dX5_separated_32 : decode cX5_separated 32 = .ok (.invokevirtual 69, 3) := by decide +kernel
theorem dX5_separated_35 : decode cX5_separated 35 = .ok (.ifCond .ne 6, 3) := by decide +kernel
theorem dX5_separated_38 : decode cX5_separated 38 = .ok (.bipush (-2), 2) := by decide +kernel
theorem dX5_separated_40 : decode cX5_separated 40 = .ok (.ireturn, 1) := by decide +kernel
theorem dX5_separated_41 : decode cX5_separated 41 = .ok (.aload_n 0, 1) := by decide +kernel
theorem dX5_separated_42 : decode cX5_separated 42 = .ok (.iload_n 1, 1) := by decide +kernel
theorem dX5_separated_43 : decode cX5_separated 43 = .ok (.iload_n 2, 1) := by decide +kernel
theorem dX5_separated_44 : decode cX5_separated 44 = .ok (.invokevirtual 107, 3) := by decide +kernel
theorem dX5_separated_47 : decode cX5_separated 47 = .ok (.ifCond .ne 51, 3) := by decide +kernel
theorem dX5_separated_50 : decode cX5_separated 50 = .ok (.aload_n 0, 1) := by decide +kernel
theorem dX5_separated_51 : decode cX5_separated 51 = .ok (.iload_n 1, 1) := by decide +kernel
theorem dX5_separated_52 : decode cX5_separated 52 = .ok (.iload_n 3, 1) := by decide +kernel
theorem dX5_separated_53 : decode cX5_separated 53 = .ok (.invokevirtual 107, 3) := by decide +kernel
theorem dX5_separated_56 : decode cX5_separated 56 = .ok (.ifCond .ne 42, 3) := by decide +kernel
theorem dX5_separated_59 : decode cX5_separated 59 = .ok (.aload_n 0, 1) := by decide +kernel
theorem dX5_separated_60 : decode cX5_separated 60 = .ok (.iload_n 1, 1) := by decide +kernel
theorem dX5_separated_61 : decode cX5_separated 61 = .ok (.iload 4, 2) := by decide +kernel
theorem dX5_separated_63 : decode cX5_separated 63 = .ok (.invokevirtual 107, 3) := by decide +kernel
theorem dX5_separated_66 : decode cX5_separated 66 = .ok (.ifCond .ne 32, 3) := by decide +kernel
theorem dX5_separated_69 : decode cX5_separated 69 = .ok (.aload_n 0, 1) := by decide +kernel
theorem dX5_separated_70 : decode cX5_separated 70 = .ok (.iload_n 2, 1) := by decide +kernel
theorem dX5_separated_71 : decode cX5_separated 71 = .ok (.iload_n 3, 1) := by decide +kernel
theorem dX5_separated_72 : decode cX5_separated 72 = .ok (.invokevirtual 107, 3) := by decide +kernel
theorem dX5_separated_75 : decode cX5_separated 75 = .ok (.ifCond .ne 23, 3) := by decide +kernel
theorem dX5_separated_78 : decode cX5_separated 78 = .ok (.aload_n 0, 1) := by decide +kernel
theorem dX5_separated_79 : decode cX5_separated 79 = .ok (.iload_n 2, 1) := by decide +kernel
theorem dX5_separated_80 : decode cX5_separated 80 = .ok (.iload 4, 2) := by decide +kernel
theorem dX5_separated_82 : decode cX5_separated 82 = .ok (.invokevirtual 107, 3) := by decide +kernel
theorem dX5_separated_85 : decode cX5_separated 85 = .ok (.ifCond .ne 13, 3) := by decide +kernel
theorem dX5_separated_88 : decode cX5_separated 88 = .ok (.aload_n 0, 1) := by decide +kernel
theorem dX5_separated_89 : decode cX5_separated 89 = .ok (.iload_n 3, 1) := by decide +kernel
theorem dX5_separated_90 : decode cX5_separated 90 = .ok (.iload 4, 2) := by decide +kernel
theorem dX5_separated_92 : decode cX5_separated 92 = .ok (.invokevirtual 107, 3) := by decide +kernel
theorem dX5_separated_95 : decode cX5_separated 95 = .ok (.ifCond .eq 6, 3) := by decide +kernel
theorem dX5_separated_98 : decode cX5_separated 98 = .ok (.bipush (-4), 2) := by decide +kernel
theorem dX5_separated_100 : decode cX5_separated 100 = .ok (.ireturn, 1) := by decide +kernel
