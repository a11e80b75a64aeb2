theorem dX5_thrown_0 : decode cX5_thrown 0 = .ok (.aload_n 0, 1) := by decide +kernel
theorem dX5_thrown_1 : decode cX5_thrown 1 = .ok (.getfield 1, 3) := by decide +kernel
theorem dX5_thrown_4 : decode cX5_thrown 4 = .ok (.ireturn, 1) := by decide +kernel
theorem dX5_fail_0 : decode cX5_fail 0 = .ok (.aload_n 0, 1) := by decide +kernel
theorem dX5_fail_1 : decode cX5_fail 1 = .ok (.iload_n 1, 1) := by decide +kernel
theorem dX5_fail_2 : decode cX5_fail 2 = .ok (.putfield 1, 3) := by decide +kernel
theorem dX5_fail_5 : decode cX5_fail 5 = .ok (.iconst 0, 1) := by decide +kernel
theorem dX5_fail_6 : decode cX5_fail 6 = .ok (.ireturn, 1) := by decide +kernel
theorem dX5_init_0 : decode cX5_init 0 = .ok (.aload_n 0, 1) := by decide +kernel
theorem dX5_init_1 : decode cX5_init 1 = .ok (.invokespecial 7, 3) := by decide +kernel
theorem dX5_init_4 : decode cX5_init 4 = .ok (.aload_n 0, 1) := by decide +kernel
theorem dX5_init_5 : decode cX5_init 5 = .ok (.bipush 60, 2) := by decide +kernel
theorem dX5_init_7 : decode cX5_init 7 = .ok (.newarray .int, 2) := by decide +kernel
theorem dX5_init_9 : decode cX5_init 9 = .ok (.putfield 13, 3) := by decide +kernel
theorem dX5_init_12 : decode cX5_init 12 = .ok (.aload_n 0, 1) := by decide +kernel
theorem dX5_init_13 : decode cX5_init 13 = .ok (.bipush 60, 2) := by decide +kernel
theorem dX5_init_15 : decode cX5_init 15 = .ok (.newarray .int, 2) := by decide +kernel
theorem dX5_init_17 : decode cX5_init 17 = .ok (.putfield 17, 3) := by decide +kernel
theorem dX5_init_20 : decode cX5_init 20 = .ok (.aload_n 0, 1) := by decide +kernel
theorem dX5_init_21 : decode cX5_init 21 = .ok (.bipush 24, 2) := by decide +kernel
theorem dX5_init_23 : decode cX5_init 23 = .ok (.newarray .int, 2) := by decide +kernel
theorem dX5_init_25 : decode cX5_init 25 = .ok (.putfield 20, 3) := by decide +kernel
theorem dX5_init_28 : decode cX5_init 28 = .ok (.aload_n 0, 1) := by decide +kernel
theorem dX5_init_29 : decode cX5_init 29 = .ok (.iconst 1, 1) := by decide +kernel
theorem dX5_init_30 : decode cX5_init 30 = .ok (.putfield 23, 3) := by decide +kernel
theorem dX5_init_33 : decode cX5_init 33 = .ok (.aload_n 0, 1) := by decide +kernel
theorem dX5_init_34 : decode cX5_init 34 = .ok (.bipush 12, 2) := by decide +kernel
theorem dX5_init_36 : decode cX5_init 36 = .ok (.newarray .long, 2) := by decide +kernel
theorem dX5_init_38 : decode cX5_init 38 = .ok (.putfield 27, 3) := by decide +kernel
theorem dX5_init_41 : decode cX5_init 41 = .ok (.aload_n 0, 1) := by decide +kernel
theorem dX5_init_42 : decode cX5_init 42 = .ok (.bipush 12, 2) := by decide +kernel
theorem dX5_init_44 : decode cX5_init 44 = .ok (.newarray .long, 2) := by decide +kernel
theorem dX5_init_46 : decode cX5_init 46 = .ok (.putfield 31, 3) := by decide +kernel
theorem dX5_init_49 : decode cX5_init 49 = .ok (.aload_n 0, 1) := by decide +kernel
theorem dX5_init_50 : decode cX5_init 50 = .ok (.bipush 12, 2) := by decide +kernel
theorem dX5_init_52 : decode cX5_init 52 = .ok (.newarray .long, 2) := by decide +kernel
theorem dX5_init_54 : decode cX5_init 54 = .ok (.putfield 34, 3) := by decide +kernel
theorem dX5_init_57 : decode cX5_init 57 = .ok (.iconst 0, 1) := by decide +kernel
theorem dX5_init_58 : decode cX5_init 58 = .ok (.istore_n 1, 1) := by decide +kernel
theorem dX5_init_59 : decode cX5_init 59 = .ok (.iload_n 1, 1) := by decide +kernel
theorem dX5_init_60 : decode cX5_init 60 = .ok (.bipush 24, 2) := by decide +kernel
theorem dX5_init_62 : decode cX5_init 62 = .ok (.if_icmp .ge 16, 3) := by decide +kernel
theorem dX5_init_65 : decode cX5_init 65 = .ok (.aload_n 0, 1) := by decide +kernel
theorem dX5_init_66 : decode cX5_init 66 = .ok (.getfield 20, 3) := by decide +kernel
theorem dX5_init_69 : decode cX5_init 69 = .ok (.iload_n 1, 1) := by decide +kernel
theorem dX5_init_70 : decode cX5_init 70 = .ok (.iconst (-1), 1) := by decide +kernel
theorem dX5_init_71 : decode cX5_init 71 = .ok (.iastore, 1) := by decide +kernel
theorem dX5_init_72 : decode cX5_init 72 = .ok (.iinc 1 1, 3) := by decide +kernel
theorem dX5_init_75 : decode cX5_init 75 = .ok (.goto (-16), 3) := by decide +kernel
theorem dX5_init_78 : decode cX5_init 78 = .ok (.return_, 1) := by decide +kernel
theorem dX5_point_0 : decode cX5_point 0 = .ok (.aload_n 0, 1) := by decide +kernel
theorem dX5_point_1 : decode cX5_point 1 = .ok (.iconst 0, 1) := by decide +kernel
theorem dX5_point_2 : decode cX5_point 2 = .ok (.putfield 1, 3) := by decide +kernel
theorem dX5_point_5 : decode cX5_point 5 = .ok (.lload 5, 2) := by decide +kernel
theorem dX5_point_7 : decode cX5_point 7 = .ok (.lconst 1, 1) := by decide +kernel
theorem dX5_point_8 : decode cX5_point 8 = .ok (.lcmp, 1) := by decide +kernel
theorem dX5_point_9 : decode cX5_point 9 = .ok (.ifCond .eq 48, 3) := by decide +kernel
theorem dX5_point_12 : decode cX5_point 12 = .ok (.lload 5, 2) := by decide +kernel
theorem dX5_point_14 : decode cX5_point 14 = .ok (.ldc2_w 37, 3) := by decide +kernel
theorem dX5_point_17 : decode cX5_point 17 = .ok (.lcmp, 1) := by decide +kernel
theorem dX5_point_18 : decode cX5_point 18 = .ok (.ifCond .eq 39, 3) := by decide +kernel
theorem dX5_point_21 : decode cX5_point 21 = .ok (.lload 5, 2) := by decide +kernel
theorem dX5_point_23 : decode cX5_point 23 = .ok (.ldc2_w 39, 3) := by decide +kernel
theorem dX5_point_26 : decode cX5_point 26 = .ok (.lcmp, 1) := by decide +kernel
theorem dX5_point_27 : decode cX5_point 27 = .ok (.ifCond .eq 30, 3) := by decide +kernel
theorem dX5_point_30 : decode cX5_point 30 = .ok (.lload 5, 2) := by decide +kernel
theorem dX5_point_32 : decode cX5_point 32 = .ok (.ldc2_w 41, 3) := by decide +kernel
theorem dX5_point_35 : decode cX5_point 35 = .ok (.lcmp, 1) := by decide +kernel
theorem dX5_point_36 : decode cX5_point 36 = .ok (.ifCond .eq 21, 3) := by decide +kernel
theorem dX5_point_39 : decode cX5_point 39 = .ok (.lload 5, 2) := by decide +kernel
theorem dX5_point_41 : decode cX5_point 41 = .ok (.ldc2_w 43, 3) := by decide +kernel
theorem dX5_point_44 : decode cX5_point 44 = .ok (.lcmp, 1) := by decide +kernel
theorem dX5_point_45 : decode cX5_point 45 = .ok (.ifCond .eq 12, 3) := by decide +kernel
theorem dX5_point_48 : decode cX5_point 48 = .ok (.lload 5, 2) := by decide +kernel
theorem dX5_point_50 : decode cX5_point 50 = .ok (.ldc2_w 45, 3) := by decide +kernel
theorem dX5_point_53 : decode cX5_point 53 = .ok (.lcmp, 1) := by decide +kernel
theorem dX5_point_54 : decode cX5_point 54 = .ok (.ifCond .ne 7, 3) := by decide +kernel
theorem dX5_point_57 : decode cX5_point 57 = .ok (.iconst 1, 1) := by decide +kernel
theorem dX5_point_58 : decode cX5_point 58 = .ok (.goto 4, 3) := by decide +kernel
theorem dX5_point_61 : decode cX5_point 61 = .ok (.iconst 0, 1) := by decide +kernel
theorem dX5_point_62 : decode cX5_point 62 = .ok (.istore 7, 2) := by decide +kernel
theorem dX5_point_64 : decode cX5_point 64 = .ok (.iload 7, 2) := by decide +kernel
theorem dX5_point_66 : decode cX5_point 66 = .ok (.ifCond .eq 35, 3) := by decide +kernel
theorem dX5_point_69 : decode cX5_point 69 = .ok (.lload_n 1, 1) := by decide +kernel
theorem dX5_point_70 : decode cX5_point 70 = .ok (.ldc2_w 47, 3) := by decide +kernel
theorem dX5_point_73 : decode cX5_point 73 = .ok (.lcmp, 1) := by decide +kernel
theorem dX5_point_74 : decode cX5_point 74 = .ok (.ifCond .lt 27, 3) := by decide +kernel
theorem dX5_point_77 : decode cX5_point 77 = .ok (.lload_n 1, 1) := by decide +kernel
theorem dX5_point_78 : decode cX5_point 78 = .ok (.ldc2_w 49, 3) := by decide +kernel
theorem dX5_point_81 : decode cX5_point 81 = .ok (.lcmp, 1) := by decide +kernel
theorem dX5_point_82 : decode cX5_point 82 = .ok (.ifCond .gt 19, 3) := by decide +kernel
theorem dX5_point_85 : decode cX5_point 85 = .ok (.lload_n 3, 1) := by decide +kernel
theorem dX5_point_86 : decode cX5_point 86 = .ok (.ldc2_w 47, 3) := by decide +kernel
theorem dX5_point_89 : decode cX5_point 89 = .ok (.lcmp, 1) := by decide +kernel
theorem dX5_point_90 : decode cX5_point 90 = .ok (.ifCond .lt 11, 3) := by decide +kernel
theorem dX5_point_93 : decode cX5_point 93 = .ok (.lload_n 3, 1) := by decide +kernel
theorem dX5_point_94 : decode cX5_point 94 = .ok (.ldc2_w 49, 3) := by decide +kernel
theorem dX5_point_97 : decode cX5_point 97 = .ok (.lcmp, 1) := by decide +kernel
theorem dX5_point_98 : decode cX5_point 98 = .ok (.ifCond .le 6, 3) := by decide +kernel
theorem dX5_point_101 : decode cX5_point 101 = .ok (.bipush (-2), 2) := by decide +kernel
theorem dX5_point_103 : decode cX5_point 103 = .ok (.ireturn, 1) := by decide +kernel
theorem dX5_point_104 : decode cX5_point 104 = .ok (.aload_n 0, 1) := by decide +kernel
theorem dX5_point_105 : decode cX5_point 105 = .ok (.getfield 51, 3) := by decide +kernel
theorem dX5_point_108 : decode cX5_point 108 = .ok (.bipush 60, 2) := by decide +kernel
theorem dX5_point_110 : decode cX5_point 110 = .ok (.if_icmp .ne 6, 3) := by decide +kernel
theorem dX5_point_113 : decode cX5_point 113 = .ok (.bipush (-3), 2) := by decide +kernel
theorem dX5_point_115 : decode cX5_point 115 = .ok (.ireturn, 1) := by decide +kernel
theorem dX5_point_116 : decode cX5_point 116 = .ok (.aload_n 0, 1) := by decide +kernel
theorem dX5_point_117 : decode cX5_point 117 = .ok (.getfield 13, 3) := by decide +kernel
theorem dX5_point_120 : decode cX5_point 120 = .ok (.aload_n 0, 1) := by decide +kernel
theorem dX5_point_121 : decode cX5_point 121 = .ok (.getfield 51, 3) := by decide +kernel
theorem dX5_point_124 : decode cX5_point 124 = .ok (.lload_n 1, 1) := by decide +kernel
theorem dX5_point_125 : decode cX5_point 125 = .ok (.ldc2_w 45, 3) := by decide +kernel
theorem dX5_point_128 : decode cX5_point 128 = .ok (.lload 5, 2) := by decide +kernel
theorem dX5_point_130 : decode cX5_point 130 = .ok (.ldiv, 1) := by decide +kernel
theorem dX5_point_131 : decode cX5_point 131 = .ok (.lmul, 1) := by decide +kernel
theorem dX5_point_132 : decode cX5_point 132 = .ok (.l2i, 1) := by decide +kernel
theorem dX5_point_133 : decode cX5_point 133 = .ok (.iastore, 1) := by decide +kernel
theorem dX5_point_134 : decode cX5_point 134 = .ok (.aload_n 0, 1) := by decide +kernel
theorem dX5_point_135 : decode cX5_point 135 = .ok (.getfield 17, 3) := by decide +kernel
theorem dX5_point_138 : decode cX5_point 138 = .ok (.aload_n 0, 1) := by decide +kernel
theorem dX5_point_139 : decode cX5_point 139 = .ok (.getfield 51, 3) := by decide +kernel
theorem dX5_point_142 : decode cX5_point 142 = .ok (.lload_n 3, 1) := by decide +kernel
theorem dX5_point_143 : decode cX5_point 143 = .ok (.ldc2_w 45, 3) := by decide +kernel
theorem dX5_point_146 : decode cX5_point 146 = .ok (.lload 5, 2) := by decide +kernel
theorem dX5_point_148 : decode cX5_point 148 = .ok (.ldiv, 1) := by decide +kernel
theorem dX5_point_149 : decode cX5_point 149 = .ok (.lmul, 1) := by decide +kernel
theorem dX5_point_150 : decode cX5_point 150 = .ok (.l2i, 1) := by decide +kernel
theorem dX5_point_151 : decode cX5_point 151 = .ok (.iastore, 1) := by decide +kernel
theorem dX5_point_152 : decode cX5_point 152 = .ok (.aload_n 0, 1) := by decide +kernel
theorem dX5_point_153 : decode cX5_point 153 = .ok (.dup, 1) := by decide +kernel
theorem dX5_point_154 : decode cX5_point 154 = .ok (.getfield 51, 3) := by decide +kernel
theorem dX5_point_157 : decode cX5_point 157 = .ok (.iconst 1, 1) := by decide +kernel
theorem dX5_point_158 : decode cX5_point 158 = .ok (.iadd, 1) := by decide +kernel
theorem dX5_point_159 : decode cX5_point 159 = .ok (.putfield 51, 3) := by decide +kernel
theorem dX5_point_162 : decode cX5_point 162 = .ok (.aload_n 0, 1) := by decide +kernel
theorem dX5_point_163 : decode cX5_point 163 = .ok (.getfield 51, 3) := by decide +kernel
theorem dX5_point_166 : decode cX5_point 166 = .ok (.iconst 1, 1) := by decide +kernel
theorem dX5_point_167 : decode cX5_point 167 = .ok (.isub, 1) := by decide +kernel
theorem dX5_point_168 : decode cX5_point 168 = .ok (.ireturn, 1) := by decide +kernel
theorem dX5_isPoint_0 : decode cX5_isPoint 0 = .ok (.iload_n 1, 1) := by decide +kernel
theorem dX5_isPoint_1 : decode cX5_isPoint 1 = .ok (.ifCond .lt 15, 3) := by decide +kernel
theorem dX5_isPoint_4 : decode cX5_isPoint 4 = .ok (.iload_n 1, 1) := by decide +kernel
theorem dX5_isPoint_5 : decode cX5_isPoint 5 = .ok (.aload_n 0, 1) := by decide +kernel
theorem dX5_isPoint_6 : decode cX5_isPoint 6 = .ok (.getfield 51, 3) := by decide +kernel
theorem dX5_isPoint_9 : decode cX5_isPoint 9 = .ok (.if_icmp .ge 7, 3) := by decide +kernel
theorem dX5_isPoint_12 : decode cX5_isPoint 12 = .ok (.iconst 1, 1) := by decide +kernel
theorem dX5_isPoint_13 : decode cX5_isPoint 13 = .ok (.goto 4, 3) := by decide +kernel
theorem dX5_isPoint_16 : decode cX5_isPoint 16 = .ok (.iconst 0, 1) := by decide +kernel
theorem dX5_isPoint_17 : decode cX5_isPoint 17 = .ok (.ireturn, 1) := by decide +kernel
theorem dX5_areEqual_0 : decode cX5_areEqual 0 = .ok (.aload_n 0, 1) := by decide +kernel
theorem dX5_areEqual_1 : decode cX5_areEqual 1 = .ok (.getfield 13, 3) := by decide +kernel
theorem dX5_areEqual_4 : decode cX5_areEqual 4 = .ok (.iload_n 1, 1) := by decide +kernel
theorem dX5_areEqual_5 : decode cX5_areEqual 5 = .ok (.iaload, 1) := by decide +kernel
theorem dX5_areEqual_6 : decode cX5_areEqual 6 = .ok (.aload_n 0, 1) := by decide +kernel
theorem dX5_areEqual_7 : decode cX5_areEqual 7 = .ok (.getfield 13, 3) := by decide +kernel
theorem dX5_areEqual_10 : decode cX5_areEqual 10 = .ok (.iload_n 2, 1) := by decide +kernel
theorem dX5_areEqual_11 : decode cX5_areEqual 11 = .ok (.iaload, 1) := by decide +kernel
theorem dX5_areEqual_12 : decode cX5_areEqual 12 = .ok (.if_icmp .ne 22, 3) := by decide +kernel
theorem dX5_areEqual_15 : decode cX5_areEqual 15 = .ok (.aload_n 0, 1) := by decide +kernel
theorem dX5_areEqual_16 : decode cX5_areEqual 16 = .ok (.getfield 17, 3) := by decide +kernel
theorem dX5_areEqual_19 : decode cX5_areEqual 19 = .ok (.iload_n 1, 1) := by decide +kernel
theorem dX5_areEqual_20 : decode cX5_areEqual 20 = .ok (.iaload, 1) := by decide +kernel
theorem dX5_areEqual_21 : decode cX5_areEqual 21 = .ok (.aload_n 0, 1) := by decide +kernel
theorem dX5_areEqual_22 : decode cX5_areEqual 22 = .ok (.getfield 17, 3) := by decide +kernel
theorem dX5_areEqual_25 : decode cX5_areEqual 25 = .ok (.iload_n 2, 1) := by decide +kernel
theorem dX5_areEqual_26 : decode cX5_areEqual 26 = .ok (.iaload, 1) := by decide +kernel
theorem dX5_areEqual_27 : decode cX5_areEqual 27 = .ok (.if_icmp .ne 7, 3) := by decide +kernel
theorem dX5_areEqual_30 : decode cX5_areEqual 30 = .ok (.iconst 1, 1) := by decide +kernel
theorem dX5_areEqual_31 : decode cX5_areEqual 31 = .ok (.goto 4, 3) := by decide +kernel
theorem dX5_areEqual_34 : decode cX5_areEqual 34 = .ok (.iconst 0, 1) := by decide +kernel
theorem dX5_areEqual_35 : decode cX5_areEqual 35 = .ok (.ireturn, 1) := by decide +kernel
theorem dX5_signOf_0 : decode cX5_signOf 0 = .ok (.lload_n 0, 1) := by decide +kernel
theorem dX5_signOf_1 : decode cX5_signOf 1 = .ok (.lconst 0, 1) := by decide +kernel
theorem dX5_signOf_2 : decode cX5_signOf 2 = .ok (.lcmp, 1) := by decide +kernel
theorem dX5_signOf_3 : decode cX5_signOf 3 = .ok (.ifCond .le 7, 3) := by decide +kernel
theorem dX5_signOf_6 : decode cX5_signOf 6 = .ok (.iconst 1, 1) := by decide +kernel
theorem dX5_signOf_7 : decode cX5_signOf 7 = .ok (.goto 14, 3) := by decide +kernel
theorem dX5_signOf_10 : decode cX5_signOf 10 = .ok (.lload_n 0, 1) := by decide +kernel
theorem dX5_signOf_11 : decode cX5_signOf 11 = .ok (.lconst 0, 1) := by decide +kernel
theorem dX5_signOf_12 : decode cX5_signOf 12 = .ok (.lcmp, 1) := by decide +kernel
theorem dX5_signOf_13 : decode cX5_signOf 13 = .ok (.ifCond .ge 7, 3) := by decide +kernel
theorem dX5_signOf_16 : decode cX5_signOf 16 = .ok (.iconst (-1), 1) := by decide +kernel
theorem dX5_signOf_17 : decode cX5_signOf 17 = .ok (.goto 4, 3) := by decide +kernel
theorem dX5_signOf_20 : decode cX5_signOf 20 = .ok (.iconst 0, 1) := by decide +kernel
theorem dX5_signOf_21 : decode cX5_signOf 21 = .ok (.ireturn, 1) := by decide +kernel
theorem dX5_turn_0 : decode cX5_turn 0 = .ok (.aload_n 0, 1) := by decide +kernel
theorem dX5_turn_1 : decode cX5_turn 1 = .ok (.getfield 13, 3) := by decide +kernel
theorem dX5_turn_4 : decode cX5_turn 4 = .ok (.iload_n 2, 1) := by decide +kernel
theorem dX5_turn_5 : decode cX5_turn 5 = .ok (.iaload, 1) := by decide +kernel
theorem dX5_turn_6 : decode cX5_turn 6 = .ok (.aload_n 0, 1) := by decide +kernel
theorem dX5_turn_7 : decode cX5_turn 7 = .ok (.getfield 13, 3) := by decide +kernel
theorem dX5_turn_10 : decode cX5_turn 10 = .ok (.iload_n 1, 1) := by decide +kernel
theorem dX5_turn_11 : decode cX5_turn 11 = .ok (.iaload, 1) := by decide +kernel
theorem dX5_turn_12 : decode cX5_turn 12 = .ok (.isub, 1) := by decide +kernel
theorem dX5_turn_13 : decode cX5_turn 13 = .ok (.i2l, 1) := by decide +kernel
theorem dX5_turn_14 : decode cX5_turn 14 = .ok (.aload_n 0, 1) := by decide +kernel
theorem dX5_turn_15 : decode cX5_turn 15 = .ok (.getfield 17, 3) := by decide +kernel
theorem dX5_turn_18 : decode cX5_turn 18 = .ok (.iload_n 3, 1) := by decide +kernel
theorem dX5_turn_19 : decode cX5_turn 19 = .ok (.iaload, 1) := by decide +kernel
theorem dX5_turn_20 : decode cX5_turn 20 = .ok (.aload_n 0, 1) := by decide +kernel
theorem dX5_turn_21 : decode cX5_turn 21 = .ok (.getfield 17, 3) := by decide +kernel
theorem dX5_turn_24 : decode cX5_turn 24 = .ok (.iload_n 1, 1) := by decide +kernel
theorem dX5_turn_25 : decode cX5_turn 25 = .ok (.iaload, 1) := by decide +kernel
theorem dX5_turn_26 : decode cX5_turn 26 = .ok (.isub, 1) := by decide +kernel
theorem dX5_turn_27 : decode cX5_turn 27 = .ok (.i2l, 1) := by decide +kernel
theorem dX5_turn_28 : decode cX5_turn 28 = .ok (.lmul, 1) := by decide +kernel
theorem dX5_turn_29 : decode cX5_turn 29 = .ok (.aload_n 0, 1) := by decide +kernel
theorem dX5_turn_30 : decode cX5_turn 30 = .ok (.getfield 17, 3) := by decide +kernel
theorem dX5_turn_33 : decode cX5_turn 33 = .ok (.iload_n 2, 1) := by decide +kernel
theorem dX5_turn_34 : decode cX5_turn 34 = .ok (.iaload, 1) := by decide +kernel
theorem dX5_turn_35 : decode cX5_turn 35 = .ok (.aload_n 0, 1) := by decide +kernel
theorem dX5_turn_36 : decode cX5_turn 36 = .ok (.getfield 17, 3) := by decide +kernel
theorem dX5_turn_39 : decode cX5_turn 39 = .ok (.iload_n 1, 1) := by decide +kernel
theorem dX5_turn_40 : decode cX5_turn 40 = .ok (.iaload, 1) := by decide +kernel
theorem dX5_turn_41 : decode cX5_turn 41 = .ok (.isub, 1) := by decide +kernel
theorem dX5_turn_42 : decode cX5_turn 42 = .ok (.i2l, 1) := by decide +kernel
theorem dX5_turn_43 : decode cX5_turn 43 = .ok (.aload_n 0, 1) := by decide +kernel
theorem dX5_turn_44 : decode cX5_turn 44 = .ok (.getfield 13, 3) := by decide +kernel
theorem dX5_turn_47 : decode cX5_turn 47 = .ok (.iload_n 3, 1) := by decide +kernel
theorem dX5_turn_48 : decode cX5_turn 48 = .ok (.iaload, 1) := by decide +kernel
theorem dX5_turn_49 : decode cX5_turn 49 = .ok (.aload_n 0, 1) := by decide +kernel
theorem dX5_turn_50 : decode cX5_turn 50 = .ok (.getfield 13, 3) := by decide +kernel
theorem dX5_turn_53 : decode cX5_turn 53 = .ok (.iload_n 1, 1) := by decide +kernel
theorem dX5_turn_54 : decode cX5_turn 54 = .ok (.iaload, 1) := by decide +kernel
theorem dX5_turn_55 : decode cX5_turn 55 = .ok (.isub, 1) := by decide +kernel
theorem dX5_turn_56 : decode cX5_turn 56 = .ok (.i2l, 1) := by decide +kernel
theorem dX5_turn_57 : decode cX5_turn 57 = .ok (.lmul, 1) := by decide +kernel
theorem dX5_turn_58 : decode cX5_turn 58 = .ok (.lsub, 1) := by decide +kernel
theorem dX5_turn_59 : decode cX5_turn 59 = .ok (.invokestatic 54, 3) := by decide +kernel
theorem dX5_turn_62 : decode cX5_turn 62 = .ok (.ireturn, 1) := by decide +kernel
theorem dX5_along_0 : decode cX5_along 0 = .ok (.aload_n 0, 1) := by decide +kernel
theorem dX5_along_1 : decode cX5_along 1 = .ok (.getfield 13, 3) := by decide +kernel
theorem dX5_along_4 : decode cX5_along 4 = .ok (.iload_n 2, 1) := by decide +kernel
theorem dX5_along_5 : decode cX5_along 5 = .ok (.iaload, 1) := by decide +kernel
theorem dX5_along_6 : decode cX5_along 6 = .ok (.aload_n 0, 1) := by decide +kernel
theorem dX5_along_7 : decode cX5_along 7 = .ok (.getfield 13, 3) := by decide +kernel
theorem dX5_along_10 : decode cX5_along 10 = .ok (.iload_n 1, 1) := by decide +kernel
theorem dX5_along_11 : decode cX5_along 11 = .ok (.iaload, 1) := by decide +kernel
theorem dX5_along_12 : decode cX5_along 12 = .ok (.isub, 1) := by decide +kernel
theorem dX5_along_13 : decode cX5_along 13 = .ok (.i2l, 1) := by decide +kernel
theorem dX5_along_14 : decode cX5_along 14 = .ok (.aload_n 0, 1) := by decide +kernel
theorem dX5_along_15 : decode cX5_along 15 = .ok (.getfield 13, 3) := by decide +kernel
theorem dX5_along_18 : decode cX5_along 18 = .ok (.iload_n 3, 1) := by decide +kernel
theorem dX5_along_19 : decode cX5_along 19 = .ok (.iaload, 1) := by decide +kernel
theorem dX5_along_20 : decode cX5_along 20 = .ok (.aload_n 0, 1) := by decide +kernel
theorem dX5_along_21 : decode cX5_along 21 = .ok (.getfield 13, 3) := by decide +kernel
theorem dX5_along_24 : decode cX5_along 24 = .ok (.iload_n 1, 1) := by decide +kernel
theorem dX5_along_25 : decode cX5_along 25 = .ok (.iaload, 1) := by decide +kernel
theorem dX5_along_26 : decode cX5_along 26 = .ok (.isub, 1) := by decide +kernel
theorem dX5_along_27 : decode cX5_along 27 = .ok (.i2l, 1) := by decide +kernel
theorem dX5_along_28 : decode cX5_along 28 = .ok (.lmul, 1) := by decide +kernel
theorem dX5_along_29 : decode cX5_along 29 = .ok (.aload_n 0, 1) := by decide +kernel
theorem dX5_along_30 : decode cX5_along 30 = .ok (.getfield 17, 3) := by decide +kernel
theorem dX5_along_33 : decode cX5_along 33 = .ok (.iload_n 2, 1) := by decide +kernel
theorem dX5_along_34 : decode cX5_along 34 = .ok (.iaload, 1) := by decide +kernel
theorem dX5_along_35 : decode cX5_along 35 = .ok (.aload_n 0, 1) := by decide +kernel
theorem dX5_along_36 : decode cX5_along 36 = .ok (.getfield 17, 3) := by decide +kernel
theorem dX5_along_39 : decode cX5_along 39 = .ok (.iload_n 1, 1) := by decide +kernel
theorem dX5_along_40 : decode cX5_along 40 = .ok (.iaload, 1) := by decide +kernel
theorem dX5_along_41 : decode cX5_along 41 = .ok (.isub, 1) := by decide +kernel
theorem dX5_along_42 : decode cX5_along 42 = .ok (.i2l, 1) := by decide +kernel
theorem dX5_along_43 : decode cX5_along 43 = .ok (.aload_n 0, 1) := by decide +kernel
theorem dX5_along_44 : decode cX5_along 44 = .ok (.getfield 17, 3) := by decide +kernel
theorem dX5_along_47 : decode cX5_along 47 = .ok (.iload_n 3, 1) := by decide +kernel
theorem dX5_along_48 : decode cX5_along 48 = .ok (.iaload, 1) := by decide +kernel
theorem dX5_along_49 : decode cX5_along 49 = .ok (.aload_n 0, 1) := by decide +kernel
theorem dX5_along_50 : decode cX5_along 50 = .ok (.getfield 17, 3) := by decide +kernel
theorem dX5_along_53 : decode cX5_along 53 = .ok (.iload_n 1, 1) := by decide +kernel
theorem dX5_along_54 : decode cX5_along 54 = .ok (.iaload, 1) := by decide +kernel
theorem dX5_along_55 : decode cX5_along 55 = .ok (.isub, 1) := by decide +kernel
theorem dX5_along_56 : decode cX5_along 56 = .ok (.i2l, 1) := by decide +kernel
theorem dX5_along_57 : decode cX5_along 57 = .ok (.lmul, 1) := by decide +kernel
theorem dX5_along_58 : decode cX5_along 58 = .ok (.ladd, 1) := by decide +kernel
theorem dX5_along_59 : decode cX5_along 59 = .ok (.lreturn, 1) := by decide +kernel
theorem dX5_ring_0 : decode cX5_ring 0 = .ok (.aload_n 0, 1) := by decide +kernel
theorem dX5_ring_1 : decode cX5_ring 1 = .ok (.getfield 13, 3) := by decide +kernel
theorem dX5_ring_4 : decode cX5_ring 4 = .ok (.iload_n 1, 1) := by decide +kernel
theorem dX5_ring_5 : decode cX5_ring 5 = .ok (.iaload, 1) := by decide +kernel
theorem dX5_ring_6 : decode cX5_ring 6 = .ok (.aload_n 0, 1) := by decide +kernel
theorem dX5_ring_7 : decode cX5_ring 7 = .ok (.getfield 13, 3) := by decide +kernel
theorem dX5_ring_10 : decode cX5_ring 10 = .ok (.iload 4, 2) := by decide +kernel
theorem dX5_ring_12 : decode cX5_ring 12 = .ok (.iaload, 1) := by decide +kernel
theorem dX5_ring_13 : decode cX5_ring 13 = .ok (.isub, 1) := by decide +kernel
theorem dX5_ring_14 : decode cX5_ring 14 = .ok (.i2l, 1) := by decide +kernel
theorem dX5_ring_15 : decode cX5_ring 15 = .ok (.lstore 5, 2) := by decide +kernel
theorem dX5_ring_17 : decode cX5_ring 17 = .ok (.aload_n 0, 1) := by decide +kernel
theorem dX5_ring_18 : decode cX5_ring 18 = .ok (.getfield 17, 3) := by decide +kernel
theorem dX5_ring_21 : decode cX5_ring 21 = .ok (.iload_n 1, 1) := by decide +kernel
theorem dX5_ring_22 : decode cX5_ring 22 = .ok (.iaload, 1) := by decide +kernel
theorem dX5_ring_23 : decode cX5_ring 23 = .ok (.aload_n 0, 1) := by decide +kernel
theorem dX5_ring_24 : decode cX5_ring 24 = .ok (.getfield 17, 3) := by decide +kernel
theorem dX5_ring_27 : decode cX5_ring 27 = .ok (.iload 4, 2) := by decide +kernel
theorem dX5_ring_29 : decode cX5_ring 29 = .ok (.iaload, 1) := by decide +kernel
theorem dX5_ring_30 : decode cX5_ring 30 = .ok (.isub, 1) := by decide +kernel
theorem dX5_ring_31 : decode cX5_ring 31 = .ok (.i2l, 1) := by decide +kernel
theorem dX5_ring_32 : decode cX5_ring 32 = .ok (.lstore 7, 2) := by decide +kernel
theorem dX5_ring_34 : decode cX5_ring 34 = .ok (.aload_n 0, 1) := by decide +kernel
theorem dX5_ring_35 : decode cX5_ring 35 = .ok (.getfield 13, 3) := by decide +kernel
theorem dX5_ring_38 : decode cX5_ring 38 = .ok (.iload_n 2, 1) := by decide +kernel
theorem dX5_ring_39 : decode cX5_ring 39 = .ok (.iaload, 1) := by decide +kernel
theorem dX5_ring_40 : decode cX5_ring 40 = .ok (.aload_n 0, 1) := by decide +kernel
theorem dX5_ring_41 : decode cX5_ring 41 = .ok (.getfield 13, 3) := by decide +kernel
theorem dX5_ring_44 : decode cX5_ring 44 = .ok (.iload 4, 2) := by decide +kernel
theorem dX5_ring_46 : decode cX5_ring 46 = .ok (.iaload, 1) := by decide +kernel
theorem dX5_ring_47 : decode cX5_ring 47 = .ok (.isub, 1) := by decide +kernel
theorem dX5_ring_48 : decode cX5_ring 48 = .ok (.i2l, 1) := by decide +kernel
theorem dX5_ring_49 : decode cX5_ring 49 = .ok (.lstore 9, 2) := by decide +kernel
theorem dX5_ring_51 : decode cX5_ring 51 = .ok (.aload_n 0, 1) := by decide +kernel
theorem dX5_ring_52 : decode cX5_ring 52 = .ok (.getfield 17, 3) := by decide +kernel
theorem dX5_ring_55 : decode cX5_ring 55 = .ok (.iload_n 2, 1) := by decide +kernel
theorem dX5_ring_56 : decode cX5_ring 56 = .ok (.iaload, 1) := by decide +kernel
theorem dX5_ring_57 : decode cX5_ring 57 = .ok (.aload_n 0, 1) := by decide +kernel
theorem dX5_ring_58 : decode cX5_ring 58 = .ok (.getfield 17, 3) := by decide +kernel
theorem dX5_ring_61 : decode cX5_ring 61 = .ok (.iload 4, 2) := by decide +kernel
theorem dX5_ring_63 : decode cX5_ring 63 = .ok (.iaload, 1) := by decide +kernel
theorem dX5_ring_64 : decode cX5_ring 64 = .ok (.isub, 1) := by decide +kernel
theorem dX5_ring_65 : decode cX5_ring 65 = .ok (.i2l, 1) := by decide +kernel
theorem dX5_ring_66 : decode cX5_ring 66 = .ok (.lstore 11, 2) := by decide +kernel
theorem dX5_ring_68 : decode cX5_ring 68 = .ok (.aload_n 0, 1) := by decide +kernel
theorem dX5_ring_69 : decode cX5_ring 69 = .ok (.getfield 13, 3) := by decide +kernel
theorem dX5_ring_72 : decode cX5_ring 72 = .ok (.iload_n 3, 1) := by decide +kernel
theorem dX5_ring_73 : decode cX5_ring 73 = .ok (.iaload, 1) := by decide +kernel
theorem dX5_ring_74 : decode cX5_ring 74 = .ok (.aload_n 0, 1) := by decide +kernel
theorem dX5_ring_75 : decode cX5_ring 75 = .ok (.getfield 13, 3) := by decide +kernel
theorem dX5_ring_78 : decode cX5_ring 78 = .ok (.iload 4, 2) := by decide +kernel
theorem dX5_ring_80 : decode cX5_ring 80 = .ok (.iaload, 1) := by decide +kernel
theorem dX5_ring_81 : decode cX5_ring 81 = .ok (.isub, 1) := by decide +kernel
theorem dX5_ring_82 : decode cX5_ring 82 = .ok (.i2l, 1) := by decide +kernel
theorem dX5_ring_83 : decode cX5_ring 83 = .ok (.lstore 13, 2) := by decide +kernel
theorem dX5_ring_85 : decode cX5_ring 85 = .ok (.aload_n 0, 1) := by decide +kernel
theorem dX5_ring_86 : decode cX5_ring 86 = .ok (.getfield 17, 3) := by decide +kernel
theorem dX5_ring_89 : decode cX5_ring 89 = .ok (.iload_n 3, 1) := by decide +kernel
theorem dX5_ring_90 : decode cX5_ring 90 = .ok (.iaload, 1) := by decide +kernel
theorem dX5_ring_91 : decode cX5_ring 91 = .ok (.aload_n 0, 1) := by decide +kernel
theorem dX5_ring_92 : decode cX5_ring 92 = .ok (.getfield 17, 3) := by decide +kernel
theorem dX5_ring_95 : decode cX5_ring 95 = .ok (.iload 4, 2) := by decide +kernel
theorem dX5_ring_97 : decode cX5_ring 97 = .ok (.iaload, 1) := by decide +kernel
theorem dX5_ring_98 : decode cX5_ring 98 = .ok (.isub, 1) := by decide +kernel
theorem dX5_ring_99 : decode cX5_ring 99 = .ok (.i2l, 1) := by decide +kernel
theorem dX5_ring_100 : decode cX5_ring 100 = .ok (.lstore 15, 2) := by decide +kernel
theorem dX5_ring_102 : decode cX5_ring 102 = .ok (.lload 5, 2) := by decide +kernel
theorem dX5_ring_104 : decode cX5_ring 104 = .ok (.lload 5, 2) := by decide +kernel
theorem dX5_ring_106 : decode cX5_ring 106 = .ok (.lmul, 1) := by decide +kernel
theorem dX5_ring_107 : decode cX5_ring 107 = .ok (.lload 7, 2) := by decide +kernel
theorem dX5_ring_109 : decode cX5_ring 109 = .ok (.lload 7, 2) := by decide +kernel
theorem dX5_ring_111 : decode cX5_ring 111 = .ok (.lmul, 1) := by decide +kernel
theorem dX5_ring_112 : decode cX5_ring 112 = .ok (.ladd, 1) := by decide +kernel
theorem dX5_ring_113 : decode cX5_ring 113 = .ok (.lstore 17, 2) := by decide +kernel
theorem dX5_ring_115 : decode cX5_ring 115 = .ok (.lload 9, 2) := by decide +kernel
theorem dX5_ring_117 : decode cX5_ring 117 = .ok (.lload 9, 2) := by decide +kernel
theorem dX5_ring_119 : decode cX5_ring 119 = .ok (.lmul, 1) := by decide +kernel
theorem dX5_ring_120 : decode cX5_ring 120 = .ok (.lload 11, 2) := by decide +kernel
theorem dX5_ring_122 : decode cX5_ring 122 = .ok (.lload 11, 2) := by decide +kernel
theorem dX5_ring_124 : decode cX5_ring 124 = .ok (.lmul, 1) := by decide +kernel
theorem dX5_ring_125 : decode cX5_ring 125 = .ok (.ladd, 1) := by decide +kernel
theorem dX5_ring_126 : decode cX5_ring 126 = .ok (.lstore 19, 2) := by decide +kernel
theorem dX5_ring_128 : decode cX5_ring 128 = .ok (.lload 13, 2) := by decide +kernel
theorem dX5_ring_130 : decode cX5_ring 130 = .ok (.lload 13, 2) := by decide +kernel
theorem dX5_ring_132 : decode cX5_ring 132 = .ok (.lmul, 1) := by decide +kernel
theorem dX5_ring_133 : decode cX5_ring 133 = .ok (.lload 15, 2) := by decide +kernel
theorem dX5_ring_135 : decode cX5_ring 135 = .ok (.lload 15, 2) := by decide +kernel
theorem dX5_ring_137 : decode cX5_ring 137 = .ok (.lmul, 1) := by decide +kernel
theorem dX5_ring_138 : decode cX5_ring 138 = .ok (.ladd, 1) := by decide +kernel
theorem dX5_ring_139 : decode cX5_ring 139 = .ok (.lstore 21, 2) := by decide +kernel
theorem dX5_ring_141 : decode cX5_ring 141 = .ok (.aload_n 0, 1) := by decide +kernel
theorem dX5_ring_142 : decode cX5_ring 142 = .ok (.iload_n 1, 1) := by decide +kernel
theorem dX5_ring_143 : decode cX5_ring 143 = .ok (.iload_n 2, 1) := by decide +kernel
theorem dX5_ring_144 : decode cX5_ring 144 = .ok (.iload_n 3, 1) := by decide +kernel
theorem dX5_ring_145 : decode cX5_ring 145 = .ok (.invokevirtual 58, 3) := by decide +kernel
theorem dX5_ring_148 : decode cX5_ring 148 = .ok (.lload 17, 2) := by decide +kernel
theorem dX5_ring_150 : decode cX5_ring 150 = .ok (.lload 9, 2) := by decide +kernel
theorem dX5_ring_152 : decode cX5_ring 152 = .ok (.lload 15, 2) := by decide +kernel
theorem dX5_ring_154 : decode cX5_ring 154 = .ok (.lmul, 1) := by decide +kernel
theorem dX5_ring_155 : decode cX5_ring 155 = .ok (.lload 11, 2) := by decide +kernel
theorem dX5_ring_157 : decode cX5_ring 157 = .ok (.lload 13, 2) := by decide +kernel
theorem dX5_ring_159 : decode cX5_ring 159 = .ok (.lmul, 1) := by decide +kernel
theorem dX5_ring_160 : decode cX5_ring 160 = .ok (.lsub, 1) := by decide +kernel
theorem dX5_ring_161 : decode cX5_ring 161 = .ok (.lmul, 1) := by decide +kernel
theorem dX5_ring_162 : decode cX5_ring 162 = .ok (.lload 19, 2) := by decide +kernel
theorem dX5_ring_164 : decode cX5_ring 164 = .ok (.lload 13, 2) := by decide +kernel
theorem dX5_ring_166 : decode cX5_ring 166 = .ok (.lload 7, 2) := by decide +kernel
theorem dX5_ring_168 : decode cX5_ring 168 = .ok (.lmul, 1) := by decide +kernel
theorem dX5_ring_169 : decode cX5_ring 169 = .ok (.lload 15, 2) := by decide +kernel
theorem dX5_ring_171 : decode cX5_ring 171 = .ok (.lload 5, 2) := by decide +kernel
theorem dX5_ring_173 : decode cX5_ring 173 = .ok (.lmul, 1) := by decide +kernel
theorem dX5_ring_174 : decode cX5_ring 174 = .ok (.lsub, 1) := by decide +kernel
theorem dX5_ring_175 : decode cX5_ring 175 = .ok (.lmul, 1) := by decide +kernel
theorem dX5_ring_176 : decode cX5_ring 176 = .ok (.ladd, 1) := by decide +kernel
theorem dX5_ring_177 : decode cX5_ring 177 = .ok (.lload 21, 2) := by decide +kernel
theorem dX5_ring_179 : decode cX5_ring 179 = .ok (.lload 5, 2) := by decide +kernel
theorem dX5_ring_181 : decode cX5_ring 181 = .ok (.lload 11, 2) := by decide +kernel
theorem dX5_ring_183 : decode cX5_ring 183 = .ok (.lmul, 1) := by decide +kernel
theorem dX5_ring_184 : decode cX5_ring 184 = .ok (.lload 7, 2) := by decide +kernel
theorem dX5_ring_186 : decode cX5_ring 186 = .ok (.lload 9, 2) := by decide +kernel
theorem dX5_ring_188 : decode cX5_ring 188 = .ok (.lmul, 1) := by decide +kernel
theorem dX5_ring_189 : decode cX5_ring 189 = .ok (.lsub, 1) := by decide +kernel
theorem dX5_ring_190 : decode cX5_ring 190 = .ok (.lmul, 1) := by decide +kernel
theorem dX5_ring_191 : decode cX5_ring 191 = .ok (.ladd, 1) := by decide +kernel
theorem dX5_ring_192 : decode cX5_ring 192 = .ok (.invokestatic 54, 3) := by decide +kernel
theorem dX5_ring_195 : decode cX5_ring 195 = .ok (.imul, 1) := by decide +kernel
theorem dX5_ring_196 : decode cX5_ring 196 = .ok (.ireturn, 1) := by decide +kernel
theorem dX5_size_0 : decode cX5_size 0 = .ok (.aload_n 0, 1) := by decide +kernel
theorem dX5_size_1 : decode cX5_size 1 = .ok (.iconst 0, 1) := by decide +kernel
theorem dX5_size_2 : decode cX5_size 2 = .ok (.putfield 1, 3) := by decide +kernel
theorem dX5_size_5 : decode cX5_size 5 = .ok (.iload_n 1, 1) := by decide +kernel
theorem dX5_size_6 : decode cX5_size 6 = .ok (.bipush 24, 2) := by decide +kernel
theorem dX5_size_8 : decode cX5_size 8 = .ok (.if_icmp .le 6, 3) := by decide +kernel
theorem dX5_size_11 : decode cX5_size 11 = .ok (.bipush (-2), 2) := by decide +kernel
theorem dX5_size_13 : decode cX5_size 13 = .ok (.ireturn, 1) := by decide +kernel
theorem dX5_size_14 : decode cX5_size 14 = .ok (.iload_n 1, 1) := by decide +kernel
theorem dX5_size_15 : decode cX5_size 15 = .ok (.ifCond .ge 9, 3) := by decide +kernel
theorem dX5_size_18 : decode cX5_size 18 = .ok (.aload_n 0, 1) := by decide +kernel
theorem dX5_size_19 : decode cX5_size 19 = .ok (.iconst 1, 1) := by decide +kernel
theorem dX5_size_20 : decode cX5_size 20 = .ok (.invokevirtual 62, 3) := by decide +kernel
theorem dX5_size_23 : decode cX5_size 23 = .ok (.ireturn, 1) := by decide +kernel
theorem dX5_size_24 : decode cX5_size 24 = .ok (.aload_n 0, 1) := by decide +kernel
theorem dX5_size_25 : decode cX5_size 25 = .ok (.getfield 66, 3) := by decide +kernel
theorem dX5_size_28 : decode cX5_size 28 = .ok (.istore_n 2, 1) := by decide +kernel
theorem dX5_size_29 : decode cX5_size 29 = .ok (.aload_n 0, 1) := by decide +kernel
theorem dX5_size_30 : decode cX5_size 30 = .ok (.iload_n 1, 1) := by decide +kernel
theorem dX5_size_31 : decode cX5_size 31 = .ok (.putfield 66, 3) := by decide +kernel
theorem dX5_size_34 : decode cX5_size 34 = .ok (.iconst 0, 1) := by decide +kernel
theorem dX5_size_35 : decode cX5_size 35 = .ok (.istore_n 3, 1) := by decide +kernel
theorem dX5_size_36 : decode cX5_size 36 = .ok (.iload_n 3, 1) := by decide +kernel
theorem dX5_size_37 : decode cX5_size 37 = .ok (.bipush 24, 2) := by decide +kernel
theorem dX5_size_39 : decode cX5_size 39 = .ok (.if_icmp .ge 16, 3) := by decide +kernel
theorem dX5_size_42 : decode cX5_size 42 = .ok (.aload_n 0, 1) := by decide +kernel
theorem dX5_size_43 : decode cX5_size 43 = .ok (.getfield 20, 3) := by decide +kernel
theorem dX5_size_46 : decode cX5_size 46 = .ok (.iload_n 3, 1) := by decide +kernel
theorem dX5_size_47 : decode cX5_size 47 = .ok (.iconst (-1), 1) := by decide +kernel
theorem dX5_size_48 : decode cX5_size 48 = .ok (.iastore, 1) := by decide +kernel
theorem dX5_size_49 : decode cX5_size 49 = .ok (.iinc 3 1, 3) := by decide +kernel
theorem dX5_size_52 : decode cX5_size 52 = .ok (.goto (-16), 3) := by decide +kernel
theorem dX5_size_55 : decode cX5_size 55 = .ok (.iload_n 2, 1) := by decide +kernel
theorem dX5_size_56 : decode cX5_size 56 = .ok (.ireturn, 1) := by decide +kernel
theorem dX5_isPlace_0 : decode cX5_isPlace 0 = .ok (.iload_n 1, 1) := by decide +kernel
theorem dX5_isPlace_1 : decode cX5_isPlace 1 = .ok (.ifCond .lt 15, 3) := by decide +kernel
theorem dX5_isPlace_4 : decode cX5_isPlace 4 = .ok (.iload_n 1, 1) := by decide +kernel
theorem dX5_isPlace_5 : decode cX5_isPlace 5 = .ok (.aload_n 0, 1) := by decide +kernel
theorem dX5_isPlace_6 : decode cX5_isPlace 6 = .ok (.getfield 66, 3) := by decide +kernel
theorem dX5_isPlace_9 : decode cX5_isPlace 9 = .ok (.if_icmp .ge 7, 3) := by decide +kernel
theorem dX5_isPlace_12 : decode cX5_isPlace 12 = .ok (.iconst 1, 1) := by decide +kernel
theorem dX5_isPlace_13 : decode cX5_isPlace 13 = .ok (.goto 4, 3) := by decide +kernel
theorem dX5_isPlace_16 : decode cX5_isPlace 16 = .ok (.iconst 0, 1) := by decide +kernel
theorem dX5_isPlace_17 : decode cX5_isPlace 17 = .ok (.ireturn, 1) := by decide +kernel
theorem dX5_of_0 : decode cX5_of 0 = .ok (.aload_n 0, 1) := by decide +kernel
theorem dX5_of_1 : decode cX5_of 1 = .ok (.iconst 0, 1) := by decide +kernel
theorem dX5_of_2 : decode cX5_of 2 = .ok (.putfield 1, 3) := by decide +kernel
theorem dX5_of_5 : decode cX5_of 5 = .ok (.iload_n 2, 1) := by decide +kernel
theorem dX5_of_6 : decode cX5_of 6 = .ok (.iconst (-1), 1) := by decide +kernel
theorem dX5_of_7 : decode cX5_of 7 = .ok (.if_icmp .eq 14, 3) := by decide +kernel
theorem dX5_of_10 : decode cX5_of 10 = .ok (.aload_n 0, 1) := by decide +kernel
theorem dX5_of_11 : decode cX5_of 11 = .ok (.iload_n 2, 1) := by decide +kernel
theorem dX5_of_12 : decode cX5_of 12 = .ok (.invokevirtual 69, 3) := by decide +kernel
theorem dX5_of_15 : decode cX5_of 15 = .ok (.ifCond .ne 6, 3) := by decide +kernel
theorem dX5_of_18 : decode cX5_of 18 = .ok (.bipush (-2), 2) := by decide +kernel
theorem dX5_of_20 : decode cX5_of 20 = .ok (.ireturn, 1) := by decide +kernel
theorem dX5_of_21 : decode cX5_of 21 = .ok (.aload_n 0, 1) := by decide +kernel
theorem dX5_of_22 : decode cX5_of 22 = .ok (.iload_n 1, 1) := by decide +kernel
theorem dX5_of_23 : decode cX5_of 23 = .ok (.invokevirtual 73, 3) := by decide +kernel
theorem dX5_of_26 : decode cX5_of 26 = .ok (.ifCond .ne 9, 3) := by decide +kernel
theorem dX5_of_29 : decode cX5_of 29 = .ok (.aload_n 0, 1) := by decide +kernel
theorem dX5_of_30 : decode cX5_of 30 = .ok (.iconst 1, 1) := by decide +kernel
theorem dX5_of_31 : decode cX5_of 31 = .ok (.invokevirtual 62, 3) := by decide +kernel
theorem dX5_of_34 : decode cX5_of 34 = .ok (.ireturn, 1) := by decide +kernel
theorem dX5_of_35 : decode cX5_of 35 = .ok (.aload_n 0, 1) := by decide +kernel
theorem dX5_of_36 : decode cX5_of 36 = .ok (.getfield 20, 3) := by decide +kernel
theorem dX5_of_39 : decode cX5_of 39 = .ok (.iload_n 1, 1) := by decide +kernel
theorem dX5_of_40 : decode cX5_of 40 = .ok (.iaload, 1) := by decide +kernel
theorem dX5_of_41 : decode cX5_of 41 = .ok (.istore_n 3, 1) := by decide +kernel
theorem dX5_of_42 : decode cX5_of 42 = .ok (.aload_n 0, 1) := by decide +kernel
theorem dX5_of_43 : decode cX5_of 43 = .ok (.getfield 20, 3) := by decide +kernel
theorem dX5_of_46 : decode cX5_of 46 = .ok (.iload_n 1, 1) := by decide +kernel
theorem dX5_of_47 : decode cX5_of 47 = .ok (.iload_n 2, 1) := by decide +kernel
theorem dX5_of_48 : decode cX5_of 48 = .ok (.iastore, 1) := by decide +kernel
theorem dX5_of_49 : decode cX5_of 49 = .ok (.iload_n 3, 1) := by decide +kernel
theorem dX5_of_50 : decode cX5_of 50 = .ok (.ireturn, 1) := by decide +kernel
theorem dX5_at_0 : decode cX5_at 0 = .ok (.aload_n 0, 1) := by decide +kernel
theorem dX5_at_1 : decode cX5_at 1 = .ok (.iconst 0, 1) := by decide +kernel
theorem dX5_at_2 : decode cX5_at 2 = .ok (.putfield 1, 3) := by decide +kernel
theorem dX5_at_5 : decode cX5_at 5 = .ok (.aload_n 0, 1) := by decide +kernel
theorem dX5_at_6 : decode cX5_at 6 = .ok (.iload_n 1, 1) := by decide +kernel
theorem dX5_at_7 : decode cX5_at 7 = .ok (.invokevirtual 73, 3) := by decide +kernel
theorem dX5_at_10 : decode cX5_at 10 = .ok (.ifCond .ne 9, 3) := by decide +kernel
theorem dX5_at_13 : decode cX5_at 13 = .ok (.aload_n 0, 1) := by decide +kernel
theorem dX5_at_14 : decode cX5_at 14 = .ok (.iconst 1, 1) := by decide +kernel
theorem dX5_at_15 : decode cX5_at 15 = .ok (.invokevirtual 62, 3) := by decide +kernel
theorem dX5_at_18 : decode cX5_at 18 = .ok (.ireturn, 1) := by decide +kernel
theorem dX5_at_19 : decode cX5_at 19 = .ok (.aload_n 0, 1) := by decide +kernel
theorem dX5_at_20 : decode cX5_at 20 = .ok (.getfield 20, 3) := by decide +kernel
theorem dX5_at_23 : decode cX5_at 23 = .ok (.iload_n 1, 1) := by decide +kernel
theorem dX5_at_24 : decode cX5_at 24 = .ok (.iaload, 1) := by decide +kernel
theorem dX5_at_25 : decode cX5_at 25 = .ok (.iconst (-1), 1) := by decide +kernel
theorem dX5_at_26 : decode cX5_at 26 = .ok (.if_icmp .ne 9, 3) := by decide +kernel
theorem dX5_at_29 : decode cX5_at 29 = .ok (.aload_n 0, 1) := by decide +kernel
theorem dX5_at_30 : decode cX5_at 30 = .ok (.iconst 2, 1) := by decide +kernel
theorem dX5_at_31 : decode cX5_at 31 = .ok (.invokevirtual 62, 3) := by decide +kernel
theorem dX5_at_34 : decode cX5_at 34 = .ok (.ireturn, 1) := by decide +kernel
theorem dX5_at_35 : decode cX5_at 35 = .ok (.iload_n 2, 1) := by decide +kernel
theorem dX5_at_36 : decode cX5_at 36 = .ok (.ifCond .ne 17, 3) := by decide +kernel
theorem dX5_at_39 : decode cX5_at 39 = .ok (.aload_n 0, 1) := by decide +kernel
theorem dX5_at_40 : decode cX5_at 40 = .ok (.getfield 13, 3) := by decide +kernel
theorem dX5_at_43 : decode cX5_at 43 = .ok (.aload_n 0, 1) := by decide +kernel
theorem dX5_at_44 : decode cX5_at 44 = .ok (.getfield 20, 3) := by decide +kernel
theorem dX5_at_47 : decode cX5_at 47 = .ok (.iload_n 1, 1) := by decide +kernel
theorem dX5_at_48 : decode cX5_at 48 = .ok (.iaload, 1) := by decide +kernel
theorem dX5_at_49 : decode cX5_at 49 = .ok (.iaload, 1) := by decide +kernel
theorem dX5_at_50 : decode cX5_at 50 = .ok (.goto 28, 3) := by decide +kernel
theorem dX5_at_53 : decode cX5_at 53 = .ok (.iload_n 2, 1) := by decide +kernel
theorem dX5_at_54 : decode cX5_at 54 = .ok (.iconst 1, 1) := by decide +kernel
theorem dX5_at_55 : decode cX5_at 55 = .ok (.if_icmp .ne 17, 3) := by decide +kernel
theorem dX5_at_58 : decode cX5_at 58 = .ok (.aload_n 0, 1) := by decide +kernel
theorem dX5_at_59 : decode cX5_at 59 = .ok (.getfield 17, 3) := by decide +kernel
theorem dX5_at_62 : decode cX5_at 62 = .ok (.aload_n 0, 1) := by decide +kernel
theorem dX5_at_63 : decode cX5_at 63 = .ok (.getfield 20, 3) := by decide +kernel
theorem dX5_at_66 : decode cX5_at 66 = .ok (.iload_n 1, 1) := by decide +kernel
theorem dX5_at_67 : decode cX5_at 67 = .ok (.iaload, 1) := by decide +kernel
theorem dX5_at_68 : decode cX5_at 68 = .ok (.iaload, 1) := by decide +kernel
theorem dX5_at_69 : decode cX5_at 69 = .ok (.goto 9, 3) := by decide +kernel
theorem dX5_at_72 : decode cX5_at 72 = .ok (.aload_n 0, 1) := by decide +kernel
theorem dX5_at_73 : decode cX5_at 73 = .ok (.getfield 20, 3) := by decide +kernel
theorem dX5_at_76 : decode cX5_at 76 = .ok (.iload_n 1, 1) := by decide +kernel
theorem dX5_at_77 : decode cX5_at 77 = .ok (.iaload, 1) := by decide +kernel
theorem dX5_at_78 : decode cX5_at 78 = .ok (.ireturn, 1) := by decide +kernel
theorem dX5_size__0 : decode cX5_size_ 0 = .ok (.fload_n 0, 1) := by decide +kernel
theorem dX5_size__1 : decode cX5_size_ 1 = .ok (.fconst 0, 1) := by decide +kernel
theorem dX5_size__2 : decode cX5_size_ 2 = .ok (.fcmp .g, 1) := by decide +kernel
theorem dX5_size__3 : decode cX5_size_ 3 = .ok (.ifCond .ge 8, 3) := by decide +kernel
theorem dX5_size__6 : decode cX5_size_ 6 = .ok (.fload_n 0, 1) := by decide +kernel
theorem dX5_size__7 : decode cX5_size_ 7 = .ok (.fneg, 1) := by decide +kernel
theorem dX5_size__8 : decode cX5_size_ 8 = .ok (.goto 4, 3) := by decide +kernel
theorem dX5_size__11 : decode cX5_size_ 11 = .ok (.fload_n 0, 1) := by decide +kernel
theorem dX5_size__12 : decode cX5_size_ 12 = .ok (.freturn, 1) := by decide +kernel
theorem dX5_greater_0 : decode cX5_greater 0 = .ok (.fload_n 0, 1) := by decide +kernel
theorem dX5_greater_1 : decode cX5_greater 1 = .ok (.fload_n 1, 1) := by decide +kernel
theorem dX5_greater_2 : decode cX5_greater 2 = .ok (.fcmp .l, 1) := by decide +kernel
theorem dX5_greater_3 : decode cX5_greater 3 = .ok (.ifCond .le 7, 3) := by decide +kernel
theorem dX5_greater_6 : decode cX5_greater 6 = .ok (.fload_n 0, 1) := by decide +kernel
theorem dX5_greater_7 : decode cX5_greater 7 = .ok (.goto 4, 3) := by decide +kernel
theorem dX5_greater_10 : decode cX5_greater 10 = .ok (.fload_n 1, 1) := by decide +kernel
theorem dX5_greater_11 : decode cX5_greater 11 = .ok (.freturn, 1) := by decide +kernel
theorem dX5_fx_0 : decode cX5_fx 0 = .ok (.aload_n 0, 1) := by decide +kernel
theorem dX5_fx_1 : decode cX5_fx 1 = .ok (.getfield 13, 3) := by decide +kernel
theorem dX5_fx_4 : decode cX5_fx 4 = .ok (.iload_n 1, 1) := by decide +kernel
theorem dX5_fx_5 : decode cX5_fx 5 = .ok (.iaload, 1) := by decide +kernel
theorem dX5_fx_6 : decode cX5_fx 6 = .ok (.i2f, 1) := by decide +kernel
theorem dX5_fx_7 : decode cX5_fx 7 = .ok (.ldc 76, 2) := by decide +kernel
theorem dX5_fx_9 : decode cX5_fx 9 = .ok (.fdiv, 1) := by decide +kernel
theorem dX5_fx_10 : decode cX5_fx 10 = .ok (.freturn, 1) := by decide +kernel
theorem dX5_fy_0 : decode cX5_fy 0 = .ok (.aload_n 0, 1) := by decide +kernel
theorem dX5_fy_1 : decode cX5_fy 1 = .ok (.getfield 17, 3) := by decide +kernel
theorem dX5_fy_4 : decode cX5_fy 4 = .ok (.iload_n 1, 1) := by decide +kernel
theorem dX5_fy_5 : decode cX5_fy 5 = .ok (.iaload, 1) := by decide +kernel
theorem dX5_fy_6 : decode cX5_fy 6 = .ok (.i2f, 1) := by decide +kernel
theorem dX5_fy_7 : decode cX5_fy 7 = .ok (.ldc 76, 2) := by decide +kernel
theorem dX5_fy_9 : decode cX5_fy 9 = .ok (.fdiv, 1) := by decide +kernel
theorem dX5_fy_10 : decode cX5_fy 10 = .ok (.freturn, 1) := by decide +kernel
theorem dX5_most_0 : decode cX5_most 0 = .ok (.aload_n 0, 1) := by decide +kernel
theorem dX5_most_1 : decode cX5_most 1 = .ok (.iload_n 1, 1) := by decide +kernel
theorem dX5_most_2 : decode cX5_most 2 = .ok (.invokevirtual 77, 3) := by decide +kernel
theorem dX5_most_5 : decode cX5_most 5 = .ok (.invokestatic 81, 3) := by decide +kernel
theorem dX5_most_8 : decode cX5_most 8 = .ok (.aload_n 0, 1) := by decide +kernel
theorem dX5_most_9 : decode cX5_most 9 = .ok (.iload_n 1, 1) := by decide +kernel
theorem dX5_most_10 : decode cX5_most 10 = .ok (.invokevirtual 85, 3) := by decide +kernel
theorem dX5_most_13 : decode cX5_most 13 = .ok (.invokestatic 81, 3) := by decide +kernel
theorem dX5_most_16 : decode cX5_most 16 = .ok (.invokestatic 88, 3) := by decide +kernel
theorem dX5_most_19 : decode cX5_most 19 = .ok (.aload_n 0, 1) := by decide +kernel
theorem dX5_most_20 : decode cX5_most 20 = .ok (.iload_n 2, 1) := by decide +kernel
theorem dX5_most_21 : decode cX5_most 21 = .ok (.invokevirtual 77, 3) := by decide +kernel
theorem dX5_most_24 : decode cX5_most 24 = .ok (.invokestatic 81, 3) := by decide +kernel
theorem dX5_most_27 : decode cX5_most 27 = .ok (.aload_n 0, 1) := by decide +kernel
theorem dX5_most_28 : decode cX5_most 28 = .ok (.iload_n 2, 1) := by decide +kernel
theorem dX5_most_29 : decode cX5_most 29 = .ok (.invokevirtual 85, 3) := by decide +kernel
theorem dX5_most_32 : decode cX5_most 32 = .ok (.invokestatic 81, 3) := by decide +kernel
theorem dX5_most_35 : decode cX5_most 35 = .ok (.invokestatic 88, 3) := by decide +kernel
theorem dX5_most_38 : decode cX5_most 38 = .ok (.invokestatic 88, 3) := by decide +kernel
theorem dX5_most_41 : decode cX5_most 41 = .ok (.aload_n 0, 1) := by decide +kernel
theorem dX5_most_42 : decode cX5_most 42 = .ok (.iload_n 3, 1) := by decide +kernel
theorem dX5_most_43 : decode cX5_most 43 = .ok (.invokevirtual 77, 3) := by decide +kernel
theorem dX5_most_46 : decode cX5_most 46 = .ok (.invokestatic 81, 3) := by decide +kernel
theorem dX5_most_49 : decode cX5_most 49 = .ok (.aload_n 0, 1) := by decide +kernel
theorem dX5_most_50 : decode cX5_most 50 = .ok (.iload_n 3, 1) := by decide +kernel
theorem dX5_most_51 : decode cX5_most 51 = .ok (.invokevirtual 85, 3) := by decide +kernel
theorem dX5_most_54 : decode cX5_most 54 = .ok (.invokestatic 81, 3) := by decide +kernel
theorem dX5_most_57 : decode cX5_most 57 = .ok (.invokestatic 88, 3) := by decide +kernel
theorem dX5_most_60 : decode cX5_most 60 = .ok (.invokestatic 88, 3) := by decide +kernel
theorem dX5_most_63 : decode cX5_most 63 = .ok (.freturn, 1) := by decide +kernel
theorem dX5_decidesTurn_0 : decode cX5_decidesTurn 0 = .ok (.aload_n 0, 1) := by decide +kernel
theorem dX5_decidesTurn_1 : decode cX5_decidesTurn 1 = .ok (.iload_n 2, 1) := by decide +kernel
theorem dX5_decidesTurn_2 : decode cX5_decidesTurn 2 = .ok (.invokevirtual 77, 3) := by decide +kernel
theorem dX5_decidesTurn_5 : decode cX5_decidesTurn 5 = .ok (.aload_n 0, 1) := by decide +kernel
theorem dX5_decidesTurn_6 : decode cX5_decidesTurn 6 = .ok (.iload_n 1, 1) := by decide +kernel
theorem dX5_decidesTurn_7 : decode cX5_decidesTurn 7 = .ok (.invokevirtual 77, 3) := by decide +kernel
theorem dX5_decidesTurn_10 : decode cX5_decidesTurn 10 = .ok (.fsub, 1) := by decide +kernel
theorem dX5_decidesTurn_11 : decode cX5_decidesTurn 11 = .ok (.aload_n 0, 1) := by decide +kernel
theorem dX5_decidesTurn_12 : decode cX5_decidesTurn 12 = .ok (.iload_n 3, 1) := by decide +kernel
theorem dX5_decidesTurn_13 : decode cX5_decidesTurn 13 = .ok (.invokevirtual 85, 3) := by decide +kernel
theorem dX5_decidesTurn_16 : decode cX5_decidesTurn 16 = .ok (.aload_n 0, 1) := by decide +kernel
theorem dX5_decidesTurn_17 : decode cX5_decidesTurn 17 = .ok (.iload_n 1, 1) := by decide +kernel
theorem dX5_decidesTurn_18 : decode cX5_decidesTurn 18 = .ok (.invokevirtual 85, 3) := by decide +kernel
theorem dX5_decidesTurn_21 : decode cX5_decidesTurn 21 = .ok (.fsub, 1) := by decide +kernel
theorem dX5_decidesTurn_22 : decode cX5_decidesTurn 22 = .ok (.fmul, 1) := by decide +kernel
theorem dX5_decidesTurn_23 : decode cX5_decidesTurn 23 = .ok (.fstore 4, 2) := by decide +kernel
theorem dX5_decidesTurn_25 : decode cX5_decidesTurn 25 = .ok (.aload_n 0, 1) := by decide +kernel
theorem dX5_decidesTurn_26 : decode cX5_decidesTurn 26 = .ok (.iload_n 2, 1) := by decide +kernel
theorem dX5_decidesTurn_27 : decode cX5_decidesTurn 27 = .ok (.invokevirtual 85, 3) := by decide +kernel
theorem dX5_decidesTurn_30 : decode cX5_decidesTurn 30 = .ok (.aload_n 0, 1) := by decide +kernel
theorem dX5_decidesTurn_31 : decode cX5_decidesTurn 31 = .ok (.iload_n 1, 1) := by decide +kernel
theorem dX5_decidesTurn_32 : decode cX5_decidesTurn 32 = .ok (.invokevirtual 85, 3) := by decide +kernel
theorem dX5_decidesTurn_35 : decode cX5_decidesTurn 35 = .ok (.fsub, 1) := by decide +kernel
theorem dX5_decidesTurn_36 : decode cX5_decidesTurn 36 = .ok (.aload_n 0, 1) := by decide +kernel
theorem dX5_decidesTurn_37 : decode cX5_decidesTurn 37 = .ok (.iload_n 3, 1) := by decide +kernel
theorem dX5_decidesTurn_38 : decode cX5_decidesTurn 38 = .ok (.invokevirtual 77, 3) := by decide +kernel
theorem dX5_decidesTurn_41 : decode cX5_decidesTurn 41 = .ok (.aload_n 0, 1) := by decide +kernel
theorem dX5_decidesTurn_42 : decode cX5_decidesTurn 42 = .ok (.iload_n 1, 1) := by decide +kernel
theorem dX5_decidesTurn_43 : decode cX5_decidesTurn 43 = .ok (.invokevirtual 77, 3) := by decide +kernel
theorem dX5_decidesTurn_46 : decode cX5_decidesTurn 46 = .ok (.fsub, 1) := by decide +kernel
theorem dX5_decidesTurn_47 : decode cX5_decidesTurn 47 = .ok (.fmul, 1) := by decide +kernel
theorem dX5_decidesTurn_48 : decode cX5_decidesTurn 48 = .ok (.fstore 5, 2) := by decide +kernel
theorem dX5_decidesTurn_50 : decode cX5_decidesTurn 50 = .ok (.fload 4, 2) := by decide +kernel
theorem dX5_decidesTurn_52 : decode cX5_decidesTurn 52 = .ok (.fload 5, 2) := by decide +kernel
theorem dX5_decidesTurn_54 : decode cX5_decidesTurn 54 = .ok (.fsub, 1) := by decide +kernel
theorem dX5_decidesTurn_55 : decode cX5_decidesTurn 55 = .ok (.fstore 6, 2) := by decide +kernel
theorem dX5_decidesTurn_57 : decode cX5_decidesTurn 57 = .ok (.aload_n 0, 1) := by decide +kernel
theorem dX5_decidesTurn_58 : decode cX5_decidesTurn 58 = .ok (.iload_n 1, 1) := by decide +kernel
theorem dX5_decidesTurn_59 : decode cX5_decidesTurn 59 = .ok (.iload_n 2, 1) := by decide +kernel
theorem dX5_decidesTurn_60 : decode cX5_decidesTurn 60 = .ok (.iload_n 3, 1) := by decide +kernel
theorem dX5_decidesTurn_61 : decode cX5_decidesTurn 61 = .ok (.invokevirtual 92, 3) := by decide +kernel
theorem dX5_decidesTurn_64 : decode cX5_decidesTurn 64 = .ok (.fstore 7, 2) := by decide +kernel
theorem dX5_decidesTurn_66 : decode cX5_decidesTurn 66 = .ok (.fload 7, 2) := by decide +kernel
theorem dX5_decidesTurn_68 : decode cX5_decidesTurn 68 = .ok (.fload 7, 2) := by decide +kernel
theorem dX5_decidesTurn_70 : decode cX5_decidesTurn 70 = .ok (.fmul, 1) := by decide +kernel
theorem dX5_decidesTurn_71 : decode cX5_decidesTurn 71 = .ok (.ldc 96, 2) := by decide +kernel
theorem dX5_decidesTurn_73 : decode cX5_decidesTurn 73 = .ok (.fmul, 1) := by decide +kernel
theorem dX5_decidesTurn_74 : decode cX5_decidesTurn 74 = .ok (.fstore 8, 2) := by decide +kernel
theorem dX5_decidesTurn_76 : decode cX5_decidesTurn 76 = .ok (.fload 6, 2) := by decide +kernel
theorem dX5_decidesTurn_78 : decode cX5_decidesTurn 78 = .ok (.invokestatic 81, 3) := by decide +kernel
theorem dX5_decidesTurn_81 : decode cX5_decidesTurn 81 = .ok (.fload 8, 2) := by decide +kernel
theorem dX5_decidesTurn_83 : decode cX5_decidesTurn 83 = .ok (.fcmp .l, 1) := by decide +kernel
theorem dX5_decidesTurn_84 : decode cX5_decidesTurn 84 = .ok (.ifCond .le 7, 3) := by decide +kernel
theorem dX5_decidesTurn_87 : decode cX5_decidesTurn 87 = .ok (.iconst 1, 1) := by decide +kernel
theorem dX5_decidesTurn_88 : decode cX5_decidesTurn 88 = .ok (.goto 4, 3) := by decide +kernel
theorem dX5_decidesTurn_91 : decode cX5_decidesTurn 91 = .ok (.iconst 0, 1) := by decide +kernel
theorem dX5_decidesTurn_92 : decode cX5_decidesTurn 92 = .ok (.ireturn, 1) := by decide +kernel
theorem dX5_decidesRing_0 : decode cX5_decidesRing 0 = .ok (.aload_n 0, 1) := by decide +kernel
theorem dX5_decidesRing_1 : decode cX5_decidesRing 1 = .ok (.iload_n 1, 1) := by decide +kernel
theorem dX5_decidesRing_2 : decode cX5_decidesRing 2 = .ok (.invokevirtual 77, 3) := by decide +kernel
theorem dX5_decidesRing_5 : decode cX5_decidesRing 5 = .ok (.aload_n 0, 1) := by decide +kernel
theorem dX5_decidesRing_6 : decode cX5_decidesRing 6 = .ok (.iload 4, 2) := by decide +kernel
theorem dX5_decidesRing_8 : decode cX5_decidesRing 8 = .ok (.invokevirtual 77, 3) := by decide +kernel
theorem dX5_decidesRing_11 : decode cX5_decidesRing 11 = .ok (.fsub, 1) := by decide +kernel
theorem dX5_decidesRing_12 : decode cX5_decidesRing 12 = .ok (.fstore 5, 2) := by decide +kernel
theorem dX5_decidesRing_14 : decode cX5_decidesRing 14 = .ok (.aload_n 0, 1) := by decide +kernel
theorem dX5_decidesRing_15 : decode cX5_decidesRing 15 = .ok (.iload_n 1, 1) := by decide +kernel
theorem dX5_decidesRing_16 : decode cX5_decidesRing 16 = .ok (.invokevirtual 85, 3) := by decide +kernel
theorem dX5_decidesRing_19 : decode cX5_decidesRing 19 = .ok (.aload_n 0, 1) := by decide +kernel
theorem dX5_decidesRing_20 : decode cX5_decidesRing 20 = .ok (.iload 4, 2) := by decide +kernel
theorem dX5_decidesRing_22 : decode cX5_decidesRing 22 = .ok (.invokevirtual 85, 3) := by decide +kernel
theorem dX5_decidesRing_25 : decode cX5_decidesRing 25 = .ok (.fsub, 1) := by decide +kernel
theorem dX5_decidesRing_26 : decode cX5_decidesRing 26 = .ok (.fstore 6, 2) := by decide +kernel
theorem dX5_decidesRing_28 : decode cX5_decidesRing 28 = .ok (.aload_n 0, 1) := by decide +kernel
theorem dX5_decidesRing_29 : decode cX5_decidesRing 29 = .ok (.iload_n 2, 1) := by decide +kernel
theorem dX5_decidesRing_30 : decode cX5_decidesRing 30 = .ok (.invokevirtual 77, 3) := by decide +kernel
theorem dX5_decidesRing_33 : decode cX5_decidesRing 33 = .ok (.aload_n 0, 1) := by decide +kernel
theorem dX5_decidesRing_34 : decode cX5_decidesRing 34 = .ok (.iload 4, 2) := by decide +kernel
theorem dX5_decidesRing_36 : decode cX5_decidesRing 36 = .ok (.invokevirtual 77, 3) := by decide +kernel
theorem dX5_decidesRing_39 : decode cX5_decidesRing 39 = .ok (.fsub, 1) := by decide +kernel
theorem dX5_decidesRing_40 : decode cX5_decidesRing 40 = .ok (.fstore 7, 2) := by decide +kernel
theorem dX5_decidesRing_42 : decode cX5_decidesRing 42 = .ok (.aload_n 0, 1) := by decide +kernel
theorem dX5_decidesRing_43 : decode cX5_decidesRing 43 = .ok (.iload_n 2, 1) := by decide +kernel
theorem dX5_decidesRing_44 : decode cX5_decidesRing 44 = .ok (.invokevirtual 85, 3) := by decide +kernel
theorem dX5_decidesRing_47 : decode cX5_decidesRing 47 = .ok (.aload_n 0, 1) := by decide +kernel
theorem dX5_decidesRing_48 : decode cX5_decidesRing 48 = .ok (.iload 4, 2) := by decide +kernel
theorem dX5_decidesRing_50 : decode cX5_decidesRing 50 = .ok (.invokevirtual 85, 3) := by decide +kernel
theorem dX5_decidesRing_53 : decode cX5_decidesRing 53 = .ok (.fsub, 1) := by decide +kernel
theorem dX5_decidesRing_54 : decode cX5_decidesRing 54 = .ok (.fstore 8, 2) := by decide +kernel
theorem dX5_decidesRing_56 : decode cX5_decidesRing 56 = .ok (.aload_n 0, 1) := by decide +kernel
theorem dX5_decidesRing_57 : decode cX5_decidesRing 57 = .ok (.iload_n 3, 1) := by decide +kernel
theorem dX5_decidesRing_58 : decode cX5_decidesRing 58 = .ok (.invokevirtual 77, 3) := by decide +kernel
theorem dX5_decidesRing_61 : decode cX5_decidesRing 61 = .ok (.aload_n 0, 1) := by decide +kernel
theorem dX5_decidesRing_62 : decode cX5_decidesRing 62 = .ok (.iload 4, 2) := by decide +kernel
theorem dX5_decidesRing_64 : decode cX5_decidesRing 64 = .ok (.invokevirtual 77, 3) := by decide +kernel
theorem dX5_decidesRing_67 : decode cX5_decidesRing 67 = .ok (.fsub, 1) := by decide +kernel
theorem dX5_decidesRing_68 : decode cX5_decidesRing 68 = .ok (.fstore 9, 2) := by decide +kernel
theorem dX5_decidesRing_70 : decode cX5_decidesRing 70 = .ok (.aload_n 0, 1) := by decide +kernel
theorem dX5_decidesRing_71 : decode cX5_decidesRing 71 = .ok (.iload_n 3, 1) := by decide +kernel
theorem dX5_decidesRing_72 : decode cX5_decidesRing 72 = .ok (.invokevirtual 85, 3) := by decide +kernel
theorem dX5_decidesRing_75 : decode cX5_decidesRing 75 = .ok (.aload_n 0, 1) := by decide +kernel
theorem dX5_decidesRing_76 : decode cX5_decidesRing 76 = .ok (.iload 4, 2) := by decide +kernel
theorem dX5_decidesRing_78 : decode cX5_decidesRing 78 = .ok (.invokevirtual 85, 3) := by decide +kernel
theorem dX5_decidesRing_81 : decode cX5_decidesRing 81 = .ok (.fsub, 1) := by decide +kernel
theorem dX5_decidesRing_82 : decode cX5_decidesRing 82 = .ok (.fstore 10, 2) := by decide +kernel
theorem dX5_decidesRing_84 : decode cX5_decidesRing 84 = .ok (.fload 5, 2) := by decide +kernel
theorem dX5_decidesRing_86 : decode cX5_decidesRing 86 = .ok (.fload 5, 2) := by decide +kernel
theorem dX5_decidesRing_88 : decode cX5_decidesRing 88 = .ok (.fmul, 1) := by decide +kernel
theorem dX5_decidesRing_89 : decode cX5_decidesRing 89 = .ok (.fload 6, 2) := by decide +kernel
theorem dX5_decidesRing_91 : decode cX5_decidesRing 91 = .ok (.fload 6, 2) := by decide +kernel
theorem dX5_decidesRing_93 : decode cX5_decidesRing 93 = .ok (.fmul, 1) := by decide +kernel
theorem dX5_decidesRing_94 : decode cX5_decidesRing 94 = .ok (.fadd, 1) := by decide +kernel
