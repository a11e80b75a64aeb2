theorem dX5_separated_101 : decode cX5_separated 101 = .ok (.aload_n 0, 1) := by decide +kernel
theorem dX5_separated_102 : decode cX5_separated 102 = .ok (.iload_n 1, 1) := by decide +kernel
theorem dX5_separated_103 : decode cX5_separated 103 = .ok (.iload_n 2, 1) := by decide +kernel
theorem dX5_separated_104 : decode cX5_separated 104 = .ok (.iload_n 3, 1) := by decide +kernel
theorem dX5_separated_105 : decode cX5_separated 105 = .ok (.invokevirtual 58, 3) := by decide +kernel
theorem dX5_separated_108 : decode cX5_separated 108 = .ok (.istore 5, 2) := by decide +kernel
theorem dX5_separated_110 : decode cX5_separated 110 = .ok (.aload_n 0, 1) := by decide +kernel
theorem dX5_separated_111 : decode cX5_separated 111 = .ok (.iload_n 1, 1) := by decide +kernel
theorem dX5_separated_112 : decode cX5_separated 112 = .ok (.iload_n 2, 1) := by decide +kernel
theorem dX5_separated_113 : decode cX5_separated 113 = .ok (.iload 4, 2) := by decide +kernel
theorem dX5_separated_115 : decode cX5_separated 115 = .ok (.invokevirtual 58, 3) := by decide +kernel
theorem dX5_separated_118 : decode cX5_separated 118 = .ok (.istore 6, 2) := by decide +kernel
theorem dX5_separated_120 : decode cX5_separated 120 = .ok (.iload 5, 2) := by decide +kernel
theorem dX5_separated_122 : decode cX5_separated 122 = .ok (.ifCond .ne 32, 3) := by decide +kernel
theorem dX5_separated_125 : decode cX5_separated 125 = .ok (.iload 6, 2) := by decide +kernel
theorem dX5_separated_127 : decode cX5_separated 127 = .ok (.ifCond .ne 27, 3) := by decide +kernel
theorem dX5_separated_130 : decode cX5_separated 130 = .ok (.aload_n 0, 1) := by decide +kernel
theorem dX5_separated_131 : decode cX5_separated 131 = .ok (.iload_n 1, 1) := by decide +kernel
theorem dX5_separated_132 : decode cX5_separated 132 = .ok (.iload_n 2, 1) := by decide +kernel
theorem dX5_separated_133 : decode cX5_separated 133 = .ok (.iload_n 3, 1) := by decide +kernel
theorem dX5_separated_134 : decode cX5_separated 134 = .ok (.invokevirtual 131, 3) := by decide +kernel
theorem dX5_separated_137 : decode cX5_separated 137 = .ok (.aload_n 0, 1) := by decide +kernel
theorem dX5_separated_138 : decode cX5_separated 138 = .ok (.iload_n 1, 1) := by decide +kernel
theorem dX5_separated_139 : decode cX5_separated 139 = .ok (.iload_n 2, 1) := by decide +kernel
theorem dX5_separated_140 : decode cX5_separated 140 = .ok (.iload 4, 2) := by decide +kernel
theorem dX5_separated_142 : decode cX5_separated 142 = .ok (.invokevirtual 131, 3) := by decide +kernel
theorem dX5_separated_145 : decode cX5_separated 145 = .ok (.if_icmp .eq 7, 3) := by decide +kernel
theorem dX5_separated_148 : decode cX5_separated 148 = .ok (.iconst 1, 1) := by decide +kernel
theorem dX5_separated_149 : decode cX5_separated 149 = .ok (.goto 4, 3) := by decide +kernel
theorem dX5_separated_152 : decode cX5_separated 152 = .ok (.iconst 0, 1) := by decide +kernel
theorem dX5_separated_153 : decode cX5_separated 153 = .ok (.ireturn, 1) := by decide +kernel
theorem dX5_separated_154 : decode cX5_separated 154 = .ok (.iload 5, 2) := by decide +kernel
theorem dX5_separated_156 : decode cX5_separated 156 = .ok (.ifCond .eq 15, 3) := by decide +kernel
theorem dX5_separated_159 : decode cX5_separated 159 = .ok (.aload_n 0, 1) := by decide +kernel
theorem dX5_separated_160 : decode cX5_separated 160 = .ok (.iload_n 1, 1) := by decide +kernel
theorem dX5_separated_161 : decode cX5_separated 161 = .ok (.iload_n 2, 1) := by decide +kernel
theorem dX5_separated_162 : decode cX5_separated 162 = .ok (.iload_n 3, 1) := by decide +kernel
theorem dX5_separated_163 : decode cX5_separated 163 = .ok (.iload 4, 2) := by decide +kernel
theorem dX5_separated_165 : decode cX5_separated 165 = .ok (.invokevirtual 123, 3) := by decide +kernel
theorem dX5_separated_168 : decode cX5_separated 168 = .ok (.ifCond .eq 6, 3) := by decide +kernel
theorem dX5_separated_171 : decode cX5_separated 171 = .ok (.bipush (-4), 2) := by decide +kernel
theorem dX5_separated_173 : decode cX5_separated 173 = .ok (.ireturn, 1) := by decide +kernel
theorem dX5_separated_174 : decode cX5_separated 174 = .ok (.iload 5, 2) := by decide +kernel
theorem dX5_separated_176 : decode cX5_separated 176 = .ok (.iload 6, 2) := by decide +kernel
theorem dX5_separated_178 : decode cX5_separated 178 = .ok (.imul, 1) := by decide +kernel
theorem dX5_separated_179 : decode cX5_separated 179 = .ok (.ifCond .ge 7, 3) := by decide +kernel
theorem dX5_separated_182 : decode cX5_separated 182 = .ok (.iconst 1, 1) := by decide +kernel
theorem dX5_separated_183 : decode cX5_separated 183 = .ok (.goto 4, 3) := by decide +kernel
theorem dX5_separated_186 : decode cX5_separated 186 = .ok (.iconst 0, 1) := by decide +kernel
theorem dX5_separated_187 : decode cX5_separated 187 = .ok (.ireturn, 1) := by decide +kernel
theorem dX5_isMany_0 : decode cX5_isMany 0 = .ok (.iload_n 1, 1) := by decide +kernel
theorem dX5_isMany_1 : decode cX5_isMany 1 = .ok (.iload_n 2, 1) := by decide +kernel
theorem dX5_isMany_2 : decode cX5_isMany 2 = .ok (.if_icmp .lt 15, 3) := by decide +kernel
theorem dX5_isMany_5 : decode cX5_isMany 5 = .ok (.iload_n 1, 1) := by decide +kernel
theorem dX5_isMany_6 : decode cX5_isMany 6 = .ok (.aload_n 0, 1) := by decide +kernel
theorem dX5_isMany_7 : decode cX5_isMany 7 = .ok (.getfield 66, 3) := by decide +kernel
theorem dX5_isMany_10 : decode cX5_isMany 10 = .ok (.if_icmp .gt 7, 3) := by decide +kernel
theorem dX5_isMany_13 : decode cX5_isMany 13 = .ok (.iconst 1, 1) := by decide +kernel
theorem dX5_isMany_14 : decode cX5_isMany 14 = .ok (.goto 4, 3) := by decide +kernel
theorem dX5_isMany_17 : decode cX5_isMany 17 = .ok (.iconst 0, 1) := by decide +kernel
theorem dX5_isMany_18 : decode cX5_isMany 18 = .ok (.ireturn, 1) := by decide +kernel
theorem dX5_isWhole_0 : decode cX5_isWhole 0 = .ok (.iconst 1, 1) := by decide +kernel
theorem dX5_isWhole_1 : decode cX5_isWhole 1 = .ok (.istore_n 2, 1) := by decide +kernel
theorem dX5_isWhole_2 : decode cX5_isWhole 2 = .ok (.iconst 0, 1) := by decide +kernel
theorem dX5_isWhole_3 : decode cX5_isWhole 3 = .ok (.istore_n 3, 1) := by decide +kernel
theorem dX5_isWhole_4 : decode cX5_isWhole 4 = .ok (.iload_n 3, 1) := by decide +kernel
theorem dX5_isWhole_5 : decode cX5_isWhole 5 = .ok (.iload_n 1, 1) := by decide +kernel
theorem dX5_isWhole_6 : decode cX5_isWhole 6 = .ok (.if_icmp .ge 29, 3) := by decide +kernel
theorem dX5_isWhole_9 : decode cX5_isWhole 9 = .ok (.iload_n 2, 1) := by decide +kernel
theorem dX5_isWhole_10 : decode cX5_isWhole 10 = .ok (.ifCond .eq 17, 3) := by decide +kernel
theorem dX5_isWhole_13 : decode cX5_isWhole 13 = .ok (.aload_n 0, 1) := by decide +kernel
theorem dX5_isWhole_14 : decode cX5_isWhole 14 = .ok (.getfield 20, 3) := by decide +kernel
theorem dX5_isWhole_17 : decode cX5_isWhole 17 = .ok (.iload_n 3, 1) := by decide +kernel
theorem dX5_isWhole_18 : decode cX5_isWhole 18 = .ok (.iaload, 1) := by decide +kernel
theorem dX5_isWhole_19 : decode cX5_isWhole 19 = .ok (.iconst (-1), 1) := by decide +kernel
theorem dX5_isWhole_20 : decode cX5_isWhole 20 = .ok (.if_icmp .eq 7, 3) := by decide +kernel
theorem dX5_isWhole_23 : decode cX5_isWhole 23 = .ok (.iconst 1, 1) := by decide +kernel
theorem dX5_isWhole_24 : decode cX5_isWhole 24 = .ok (.goto 4, 3) := by decide +kernel
theorem dX5_isWhole_27 : decode cX5_isWhole 27 = .ok (.iconst 0, 1) := by decide +kernel
theorem dX5_isWhole_28 : decode cX5_isWhole 28 = .ok (.istore_n 2, 1) := by decide +kernel
theorem dX5_isWhole_29 : decode cX5_isWhole 29 = .ok (.iinc 3 1, 3) := by decide +kernel
theorem dX5_isWhole_32 : decode cX5_isWhole 32 = .ok (.goto (-28), 3) := by decide +kernel
theorem dX5_isWhole_35 : decode cX5_isWhole 35 = .ok (.iload_n 2, 1) := by decide +kernel
theorem dX5_isWhole_36 : decode cX5_isWhole 36 = .ok (.ireturn, 1) := by decide +kernel
theorem dX5_next_0 : decode cX5_next 0 = .ok (.aload_n 0, 1) := by decide +kernel
theorem dX5_next_1 : decode cX5_next 1 = .ok (.getfield 20, 3) := by decide +kernel
theorem dX5_next_4 : decode cX5_next 4 = .ok (.iload_n 1, 1) := by decide +kernel
theorem dX5_next_5 : decode cX5_next 5 = .ok (.iconst 1, 1) := by decide +kernel
theorem dX5_next_6 : decode cX5_next 6 = .ok (.iadd, 1) := by decide +kernel
theorem dX5_next_7 : decode cX5_next 7 = .ok (.iload_n 2, 1) := by decide +kernel
theorem dX5_next_8 : decode cX5_next 8 = .ok (.if_icmp .ne 7, 3) := by decide +kernel
theorem dX5_next_11 : decode cX5_next 11 = .ok (.iconst 0, 1) := by decide +kernel
theorem dX5_next_12 : decode cX5_next 12 = .ok (.goto 6, 3) := by decide +kernel
theorem dX5_next_15 : decode cX5_next 15 = .ok (.iload_n 1, 1) := by decide +kernel
theorem dX5_next_16 : decode cX5_next 16 = .ok (.iconst 1, 1) := by decide +kernel
theorem dX5_next_17 : decode cX5_next 17 = .ok (.iadd, 1) := by decide +kernel
theorem dX5_next_18 : decode cX5_next 18 = .ok (.iaload, 1) := by decide +kernel
theorem dX5_next_19 : decode cX5_next 19 = .ok (.ireturn, 1) := by decide +kernel
theorem dX5_convex_0 : decode cX5_convex 0 = .ok (.aload_n 0, 1) := by decide +kernel
theorem dX5_convex_1 : decode cX5_convex 1 = .ok (.iconst 0, 1) := by decide +kernel
theorem dX5_convex_2 : decode cX5_convex 2 = .ok (.putfield 1, 3) := by decide +kernel
theorem dX5_convex_5 : decode cX5_convex 5 = .ok (.aload_n 0, 1) := by decide +kernel
theorem dX5_convex_6 : decode cX5_convex 6 = .ok (.iload_n 1, 1) := by decide +kernel
theorem dX5_convex_7 : decode cX5_convex 7 = .ok (.iconst 3, 1) := by decide +kernel
theorem dX5_convex_8 : decode cX5_convex 8 = .ok (.invokevirtual 139, 3) := by decide +kernel
theorem dX5_convex_11 : decode cX5_convex 11 = .ok (.ifCond .ne 6, 3) := by decide +kernel
theorem dX5_convex_14 : decode cX5_convex 14 = .ok (.bipush (-2), 2) := by decide +kernel
theorem dX5_convex_16 : decode cX5_convex 16 = .ok (.ireturn, 1) := by decide +kernel
theorem dX5_convex_17 : decode cX5_convex 17 = .ok (.aload_n 0, 1) := by decide +kernel
theorem dX5_convex_18 : decode cX5_convex 18 = .ok (.iload_n 1, 1) := by decide +kernel
theorem dX5_convex_19 : decode cX5_convex 19 = .ok (.invokevirtual 142, 3) := by decide +kernel
theorem dX5_convex_22 : decode cX5_convex 22 = .ok (.ifCond .ne 6, 3) := by decide +kernel
theorem dX5_convex_25 : decode cX5_convex 25 = .ok (.bipush (-4), 2) := by decide +kernel
theorem dX5_convex_27 : decode cX5_convex 27 = .ok (.ireturn, 1) := by decide +kernel
theorem dX5_convex_28 : decode cX5_convex 28 = .ok (.iconst 1, 1) := by decide +kernel
theorem dX5_convex_29 : decode cX5_convex 29 = .ok (.istore_n 2, 1) := by decide +kernel
theorem dX5_convex_30 : decode cX5_convex 30 = .ok (.iconst 1, 1) := by decide +kernel
theorem dX5_convex_31 : decode cX5_convex 31 = .ok (.istore_n 3, 1) := by decide +kernel
theorem dX5_convex_32 : decode cX5_convex 32 = .ok (.iconst 0, 1) := by decide +kernel
theorem dX5_convex_33 : decode cX5_convex 33 = .ok (.istore 4, 2) := by decide +kernel
theorem dX5_convex_35 : decode cX5_convex 35 = .ok (.iload 4, 2) := by decide +kernel
theorem dX5_convex_37 : decode cX5_convex 37 = .ok (.iload_n 1, 1) := by decide +kernel
theorem dX5_convex_38 : decode cX5_convex 38 = .ok (.if_icmp .ge 127, 3) := by decide +kernel
theorem dX5_convex_41 : decode cX5_convex 41 = .ok (.iconst 0, 1) := by decide +kernel
theorem dX5_convex_42 : decode cX5_convex 42 = .ok (.istore 5, 2) := by decide +kernel
theorem dX5_convex_44 : decode cX5_convex 44 = .ok (.iload 5, 2) := by decide +kernel
theorem dX5_convex_46 : decode cX5_convex 46 = .ok (.iload_n 1, 1) := by decide +kernel
theorem dX5_convex_47 : decode cX5_convex 47 = .ok (.if_icmp .ge 112, 3) := by decide +kernel
theorem dX5_convex_50 : decode cX5_convex 50 = .ok (.iload 5, 2) := by decide +kernel
theorem dX5_convex_52 : decode cX5_convex 52 = .ok (.iload 4, 2) := by decide +kernel
theorem dX5_convex_54 : decode cX5_convex 54 = .ok (.if_icmp .eq 14, 3) := by decide +kernel
theorem dX5_convex_57 : decode cX5_convex 57 = .ok (.iload 5, 2) := by decide +kernel
theorem dX5_convex_59 : decode cX5_convex 59 = .ok (.iload 4, 2) := by decide +kernel
theorem dX5_convex_61 : decode cX5_convex 61 = .ok (.iconst 1, 1) := by decide +kernel
theorem dX5_convex_62 : decode cX5_convex 62 = .ok (.iadd, 1) := by decide +kernel
theorem dX5_convex_63 : decode cX5_convex 63 = .ok (.iload_n 1, 1) := by decide +kernel
theorem dX5_convex_64 : decode cX5_convex 64 = .ok (.irem, 1) := by decide +kernel
theorem dX5_convex_65 : decode cX5_convex 65 = .ok (.if_icmp .ne 7, 3) := by decide +kernel
theorem dX5_convex_68 : decode cX5_convex 68 = .ok (.iconst 1, 1) := by decide +kernel
theorem dX5_convex_69 : decode cX5_convex 69 = .ok (.goto 4, 3) := by decide +kernel
theorem dX5_convex_72 : decode cX5_convex 72 = .ok (.iconst 0, 1) := by decide +kernel
theorem dX5_convex_73 : decode cX5_convex 73 = .ok (.istore 6, 2) := by decide +kernel
theorem dX5_convex_75 : decode cX5_convex 75 = .ok (.iload 6, 2) := by decide +kernel
theorem dX5_convex_77 : decode cX5_convex 77 = .ok (.ifCond .eq 7, 3) := by decide +kernel
theorem dX5_convex_80 : decode cX5_convex 80 = .ok (.iconst 0, 1) := by decide +kernel
theorem dX5_convex_81 : decode cX5_convex 81 = .ok (.goto 28, 3) := by decide +kernel
theorem dX5_convex_84 : decode cX5_convex 84 = .ok (.aload_n 0, 1) := by decide +kernel
theorem dX5_convex_85 : decode cX5_convex 85 = .ok (.aload_n 0, 1) := by decide +kernel
theorem dX5_convex_86 : decode cX5_convex 86 = .ok (.getfield 20, 3) := by decide +kernel
theorem dX5_convex_89 : decode cX5_convex 89 = .ok (.iload 4, 2) := by decide +kernel
theorem dX5_convex_91 : decode cX5_convex 91 = .ok (.iaload, 1) := by decide +kernel
theorem dX5_convex_92 : decode cX5_convex 92 = .ok (.aload_n 0, 1) := by decide +kernel
theorem dX5_convex_93 : decode cX5_convex 93 = .ok (.iload 4, 2) := by decide +kernel
theorem dX5_convex_95 : decode cX5_convex 95 = .ok (.iload_n 1, 1) := by decide +kernel
theorem dX5_convex_96 : decode cX5_convex 96 = .ok (.invokevirtual 145, 3) := by decide +kernel
theorem dX5_convex_99 : decode cX5_convex 99 = .ok (.aload_n 0, 1) := by decide +kernel
theorem dX5_convex_100 : decode cX5_convex 100 = .ok (.getfield 20, 3) := by decide +kernel
theorem dX5_convex_103 : decode cX5_convex 103 = .ok (.iload 5, 2) := by decide +kernel
theorem dX5_convex_105 : decode cX5_convex 105 = .ok (.iaload, 1) := by decide +kernel
theorem dX5_convex_106 : decode cX5_convex 106 = .ok (.invokevirtual 58, 3) := by decide +kernel
theorem dX5_convex_109 : decode cX5_convex 109 = .ok (.istore 7, 2) := by decide +kernel
theorem dX5_convex_111 : decode cX5_convex 111 = .ok (.iload_n 2, 1) := by decide +kernel
theorem dX5_convex_112 : decode cX5_convex 112 = .ok (.ifCond .eq 18, 3) := by decide +kernel
theorem dX5_convex_115 : decode cX5_convex 115 = .ok (.iload 6, 2) := by decide +kernel
theorem dX5_convex_117 : decode cX5_convex 117 = .ok (.ifCond .ne 9, 3) := by decide +kernel
theorem dX5_convex_120 : decode cX5_convex 120 = .ok (.iload 7, 2) := by decide +kernel
theorem dX5_convex_122 : decode cX5_convex 122 = .ok (.iconst 1, 1) := by decide +kernel
theorem dX5_convex_123 : decode cX5_convex 123 = .ok (.if_icmp .ne 7, 3) := by decide +kernel
theorem dX5_convex_126 : decode cX5_convex 126 = .ok (.iconst 1, 1) := by decide +kernel
theorem dX5_convex_127 : decode cX5_convex 127 = .ok (.goto 4, 3) := by decide +kernel
theorem dX5_convex_130 : decode cX5_convex 130 = .ok (.iconst 0, 1) := by decide +kernel
theorem dX5_convex_131 : decode cX5_convex 131 = .ok (.istore_n 2, 1) := by decide +kernel
theorem dX5_convex_132 : decode cX5_convex 132 = .ok (.iload_n 3, 1) := by decide +kernel
theorem dX5_convex_133 : decode cX5_convex 133 = .ok (.ifCond .eq 18, 3) := by decide +kernel
theorem dX5_convex_136 : decode cX5_convex 136 = .ok (.iload 6, 2) := by decide +kernel
theorem dX5_convex_138 : decode cX5_convex 138 = .ok (.ifCond .ne 9, 3) := by decide +kernel
theorem dX5_convex_141 : decode cX5_convex 141 = .ok (.iload 7, 2) := by decide +kernel
theorem dX5_convex_143 : decode cX5_convex 143 = .ok (.iconst (-1), 1) := by decide +kernel
theorem dX5_convex_144 : decode cX5_convex 144 = .ok (.if_icmp .ne 7, 3) := by decide +kernel
theorem dX5_convex_147 : decode cX5_convex 147 = .ok (.iconst 1, 1) := by decide +kernel
theorem dX5_convex_148 : decode cX5_convex 148 = .ok (.goto 4, 3) := by decide +kernel
theorem dX5_convex_151 : decode cX5_convex 151 = .ok (.iconst 0, 1) := by decide +kernel
theorem dX5_convex_152 : decode cX5_convex 152 = .ok (.istore_n 3, 1) := by decide +kernel
theorem dX5_convex_153 : decode cX5_convex 153 = .ok (.iinc 5 1, 3) := by decide +kernel
theorem dX5_convex_156 : decode cX5_convex 156 = .ok (.goto (-112), 3) := by decide +kernel
theorem dX5_convex_159 : decode cX5_convex 159 = .ok (.iinc 4 1, 3) := by decide +kernel
theorem dX5_convex_162 : decode cX5_convex 162 = .ok (.goto (-127), 3) := by decide +kernel
theorem dX5_convex_165 : decode cX5_convex 165 = .ok (.iload_n 2, 1) := by decide +kernel
theorem dX5_convex_166 : decode cX5_convex 166 = .ok (.ifCond .eq 7, 3) := by decide +kernel
theorem dX5_convex_169 : decode cX5_convex 169 = .ok (.iconst 1, 1) := by decide +kernel
theorem dX5_convex_170 : decode cX5_convex 170 = .ok (.goto 12, 3) := by decide +kernel
theorem dX5_convex_173 : decode cX5_convex 173 = .ok (.iload_n 3, 1) := by decide +kernel
theorem dX5_convex_174 : decode cX5_convex 174 = .ok (.ifCond .eq 7, 3) := by decide +kernel
theorem dX5_convex_177 : decode cX5_convex 177 = .ok (.iconst (-1), 1) := by decide +kernel
theorem dX5_convex_178 : decode cX5_convex 178 = .ok (.goto 4, 3) := by decide +kernel
theorem dX5_convex_181 : decode cX5_convex 181 = .ok (.iconst 0, 1) := by decide +kernel
theorem dX5_convex_182 : decode cX5_convex 182 = .ok (.ireturn, 1) := by decide +kernel
theorem dX5_isOnEdge_0 : decode cX5_isOnEdge 0 = .ok (.iconst 0, 1) := by decide +kernel
theorem dX5_isOnEdge_1 : decode cX5_isOnEdge 1 = .ok (.istore_n 3, 1) := by decide +kernel
theorem dX5_isOnEdge_2 : decode cX5_isOnEdge 2 = .ok (.iconst 0, 1) := by decide +kernel
theorem dX5_isOnEdge_3 : decode cX5_isOnEdge 3 = .ok (.istore 4, 2) := by decide +kernel
theorem dX5_isOnEdge_5 : decode cX5_isOnEdge 5 = .ok (.iload 4, 2) := by decide +kernel
theorem dX5_isOnEdge_7 : decode cX5_isOnEdge 7 = .ok (.iload_n 1, 1) := by decide +kernel
theorem dX5_isOnEdge_8 : decode cX5_isOnEdge 8 = .ok (.if_icmp .ge 41, 3) := by decide +kernel
theorem dX5_isOnEdge_11 : decode cX5_isOnEdge 11 = .ok (.iload_n 3, 1) := by decide +kernel
theorem dX5_isOnEdge_12 : decode cX5_isOnEdge 12 = .ok (.ifCond .ne 25, 3) := by decide +kernel
theorem dX5_isOnEdge_15 : decode cX5_isOnEdge 15 = .ok (.aload_n 0, 1) := by decide +kernel
theorem dX5_isOnEdge_16 : decode cX5_isOnEdge 16 = .ok (.aload_n 0, 1) := by decide +kernel
theorem dX5_isOnEdge_17 : decode cX5_isOnEdge 17 = .ok (.getfield 20, 3) := by decide +kernel
theorem dX5_isOnEdge_20 : decode cX5_isOnEdge 20 = .ok (.iload 4, 2) := by decide +kernel
theorem dX5_isOnEdge_22 : decode cX5_isOnEdge 22 = .ok (.iaload, 1) := by decide +kernel
theorem dX5_isOnEdge_23 : decode cX5_isOnEdge 23 = .ok (.aload_n 0, 1) := by decide +kernel
theorem dX5_isOnEdge_24 : decode cX5_isOnEdge 24 = .ok (.iload 4, 2) := by decide +kernel
theorem dX5_isOnEdge_26 : decode cX5_isOnEdge 26 = .ok (.iload_n 1, 1) := by decide +kernel
theorem dX5_isOnEdge_27 : decode cX5_isOnEdge 27 = .ok (.invokevirtual 145, 3) := by decide +kernel
theorem dX5_isOnEdge_30 : decode cX5_isOnEdge 30 = .ok (.iload_n 2, 1) := by decide +kernel
theorem dX5_isOnEdge_31 : decode cX5_isOnEdge 31 = .ok (.invokevirtual 131, 3) := by decide +kernel
theorem dX5_isOnEdge_34 : decode cX5_isOnEdge 34 = .ok (.ifCond .eq 7, 3) := by decide +kernel
theorem dX5_isOnEdge_37 : decode cX5_isOnEdge 37 = .ok (.iconst 1, 1) := by decide +kernel
theorem dX5_isOnEdge_38 : decode cX5_isOnEdge 38 = .ok (.goto 4, 3) := by decide +kernel
theorem dX5_isOnEdge_41 : decode cX5_isOnEdge 41 = .ok (.iconst 0, 1) := by decide +kernel
theorem dX5_isOnEdge_42 : decode cX5_isOnEdge 42 = .ok (.istore_n 3, 1) := by decide +kernel
theorem dX5_isOnEdge_43 : decode cX5_isOnEdge 43 = .ok (.iinc 4 1, 3) := by decide +kernel
theorem dX5_isOnEdge_46 : decode cX5_isOnEdge 46 = .ok (.goto (-41), 3) := by decide +kernel
theorem dX5_isOnEdge_49 : decode cX5_isOnEdge 49 = .ok (.iload_n 3, 1) := by decide +kernel
theorem dX5_isOnEdge_50 : decode cX5_isOnEdge 50 = .ok (.ireturn, 1) := by decide +kernel
theorem dX5_rises_0 : decode cX5_rises 0 = .ok (.aload_n 0, 1) := by decide +kernel
theorem dX5_rises_1 : decode cX5_rises 1 = .ok (.getfield 20, 3) := by decide +kernel
theorem dX5_rises_4 : decode cX5_rises 4 = .ok (.iload_n 1, 1) := by decide +kernel
theorem dX5_rises_5 : decode cX5_rises 5 = .ok (.iaload, 1) := by decide +kernel
theorem dX5_rises_6 : decode cX5_rises 6 = .ok (.istore 4, 2) := by decide +kernel
theorem dX5_rises_8 : decode cX5_rises 8 = .ok (.aload_n 0, 1) := by decide +kernel
theorem dX5_rises_9 : decode cX5_rises 9 = .ok (.iload_n 1, 1) := by decide +kernel
theorem dX5_rises_10 : decode cX5_rises 10 = .ok (.iload_n 2, 1) := by decide +kernel
theorem dX5_rises_11 : decode cX5_rises 11 = .ok (.invokevirtual 145, 3) := by decide +kernel
theorem dX5_rises_14 : decode cX5_rises 14 = .ok (.istore 5, 2) := by decide +kernel
theorem dX5_rises_16 : decode cX5_rises 16 = .ok (.aload_n 0, 1) := by decide +kernel
theorem dX5_rises_17 : decode cX5_rises 17 = .ok (.getfield 17, 3) := by decide +kernel
theorem dX5_rises_20 : decode cX5_rises 20 = .ok (.iload 4, 2) := by decide +kernel
theorem dX5_rises_22 : decode cX5_rises 22 = .ok (.iaload, 1) := by decide +kernel
theorem dX5_rises_23 : decode cX5_rises 23 = .ok (.aload_n 0, 1) := by decide +kernel
theorem dX5_rises_24 : decode cX5_rises 24 = .ok (.getfield 17, 3) := by decide +kernel
theorem dX5_rises_27 : decode cX5_rises 27 = .ok (.iload_n 3, 1) := by decide +kernel
theorem dX5_rises_28 : decode cX5_rises 28 = .ok (.iaload, 1) := by decide +kernel
theorem dX5_rises_29 : decode cX5_rises 29 = .ok (.if_icmp .gt 23, 3) := by decide +kernel
theorem dX5_rises_32 : decode cX5_rises 32 = .ok (.aload_n 0, 1) := by decide +kernel
theorem dX5_rises_33 : decode cX5_rises 33 = .ok (.getfield 17, 3) := by decide +kernel
theorem dX5_rises_36 : decode cX5_rises 36 = .ok (.iload 5, 2) := by decide +kernel
theorem dX5_rises_38 : decode cX5_rises 38 = .ok (.iaload, 1) := by decide +kernel
theorem dX5_rises_39 : decode cX5_rises 39 = .ok (.aload_n 0, 1) := by decide +kernel
theorem dX5_rises_40 : decode cX5_rises 40 = .ok (.getfield 17, 3) := by decide +kernel
theorem dX5_rises_43 : decode cX5_rises 43 = .ok (.iload_n 3, 1) := by decide +kernel
theorem dX5_rises_44 : decode cX5_rises 44 = .ok (.iaload, 1) := by decide +kernel
theorem dX5_rises_45 : decode cX5_rises 45 = .ok (.if_icmp .le 7, 3) := by decide +kernel
theorem dX5_rises_48 : decode cX5_rises 48 = .ok (.iconst 1, 1) := by decide +kernel
theorem dX5_rises_49 : decode cX5_rises 49 = .ok (.goto 4, 3) := by decide +kernel
theorem dX5_rises_52 : decode cX5_rises 52 = .ok (.iconst 0, 1) := by decide +kernel
theorem dX5_rises_53 : decode cX5_rises 53 = .ok (.istore 6, 2) := by decide +kernel
theorem dX5_rises_55 : decode cX5_rises 55 = .ok (.aload_n 0, 1) := by decide +kernel
theorem dX5_rises_56 : decode cX5_rises 56 = .ok (.getfield 17, 3) := by decide +kernel
theorem dX5_rises_59 : decode cX5_rises 59 = .ok (.iload 5, 2) := by decide +kernel
theorem dX5_rises_61 : decode cX5_rises 61 = .ok (.iaload, 1) := by decide +kernel
theorem dX5_rises_62 : decode cX5_rises 62 = .ok (.aload_n 0, 1) := by decide +kernel
theorem dX5_rises_63 : decode cX5_rises 63 = .ok (.getfield 17, 3) := by decide +kernel
theorem dX5_rises_66 : decode cX5_rises 66 = .ok (.iload_n 3, 1) := by decide +kernel
theorem dX5_rises_67 : decode cX5_rises 67 = .ok (.iaload, 1) := by decide +kernel
theorem dX5_rises_68 : decode cX5_rises 68 = .ok (.if_icmp .gt 23, 3) := by decide +kernel
theorem dX5_rises_71 : decode cX5_rises 71 = .ok (.aload_n 0, 1) := by decide +kernel
theorem dX5_rises_72 : decode cX5_rises 72 = .ok (.getfield 17, 3) := by decide +kernel
theorem dX5_rises_75 : decode cX5_rises 75 = .ok (.iload 4, 2) := by decide +kernel
theorem dX5_rises_77 : decode cX5_rises 77 = .ok (.iaload, 1) := by decide +kernel
theorem dX5_rises_78 : decode cX5_rises 78 = .ok (.aload_n 0, 1) := by decide +kernel
theorem dX5_rises_79 : decode cX5_rises 79 = .ok (.getfield 17, 3) := by decide +kernel
theorem dX5_rises_82 : decode cX5_rises 82 = .ok (.iload_n 3, 1) := by decide +kernel
theorem dX5_rises_83 : decode cX5_rises 83 = .ok (.iaload, 1) := by decide +kernel
theorem dX5_rises_84 : decode cX5_rises 84 = .ok (.if_icmp .le 7, 3) := by decide +kernel
theorem dX5_rises_87 : decode cX5_rises 87 = .ok (.iconst 1, 1) := by decide +kernel
theorem dX5_rises_88 : decode cX5_rises 88 = .ok (.goto 4, 3) := by decide +kernel
theorem dX5_rises_91 : decode cX5_rises 91 = .ok (.iconst 0, 1) := by decide +kernel
theorem dX5_rises_92 : decode cX5_rises 92 = .ok (.istore 7, 2) := by decide +kernel
theorem dX5_rises_94 : decode cX5_rises 94 = .ok (.iload 6, 2) := by decide +kernel
theorem dX5_rises_96 : decode cX5_rises 96 = .ok (.ifCond .eq 20, 3) := by decide +kernel
theorem dX5_rises_99 : decode cX5_rises 99 = .ok (.aload_n 0, 1) := by decide +kernel
theorem dX5_rises_100 : decode cX5_rises 100 = .ok (.iload 4, 2) := by decide +kernel
theorem dX5_rises_102 : decode cX5_rises 102 = .ok (.iload 5, 2) := by decide +kernel
theorem dX5_rises_104 : decode cX5_rises 104 = .ok (.iload_n 3, 1) := by decide +kernel
theorem dX5_rises_105 : decode cX5_rises 105 = .ok (.invokevirtual 58, 3) := by decide +kernel
theorem dX5_rises_108 : decode cX5_rises 108 = .ok (.iconst 1, 1) := by decide +kernel
theorem dX5_rises_109 : decode cX5_rises 109 = .ok (.if_icmp .ne 7, 3) := by decide +kernel
theorem dX5_rises_112 : decode cX5_rises 112 = .ok (.iconst 1, 1) := by decide +kernel
theorem dX5_rises_113 : decode cX5_rises 113 = .ok (.goto 26, 3) := by decide +kernel
theorem dX5_rises_116 : decode cX5_rises 116 = .ok (.iload 7, 2) := by decide +kernel
theorem dX5_rises_118 : decode cX5_rises 118 = .ok (.ifCond .eq 20, 3) := by decide +kernel
theorem dX5_rises_121 : decode cX5_rises 121 = .ok (.aload_n 0, 1) := by decide +kernel
theorem dX5_rises_122 : decode cX5_rises 122 = .ok (.iload 4, 2) := by decide +kernel
theorem dX5_rises_124 : decode cX5_rises 124 = .ok (.iload 5, 2) := by decide +kernel
theorem dX5_rises_126 : decode cX5_rises 126 = .ok (.iload_n 3, 1) := by decide +kernel
theorem dX5_rises_127 : decode cX5_rises 127 = .ok (.invokevirtual 58, 3) := by decide +kernel
theorem dX5_rises_130 : decode cX5_rises 130 = .ok (.iconst (-1), 1) := by decide +kernel
theorem dX5_rises_131 : decode cX5_rises 131 = .ok (.if_icmp .ne 7, 3) := by decide +kernel
theorem dX5_rises_134 : decode cX5_rises 134 = .ok (.iconst (-1), 1) := by decide +kernel
theorem dX5_rises_135 : decode cX5_rises 135 = .ok (.goto 4, 3) := by decide +kernel
theorem dX5_rises_138 : decode cX5_rises 138 = .ok (.iconst 0, 1) := by decide +kernel
theorem dX5_rises_139 : decode cX5_rises 139 = .ok (.ireturn, 1) := by decide +kernel
theorem dX5_polygon_0 : decode cX5_polygon 0 = .ok (.aload_n 0, 1) := by decide +kernel
theorem dX5_polygon_1 : decode cX5_polygon 1 = .ok (.iconst 0, 1) := by decide +kernel
theorem dX5_polygon_2 : decode cX5_polygon 2 = .ok (.putfield 1, 3) := by decide +kernel
theorem dX5_polygon_5 : decode cX5_polygon 5 = .ok (.aload_n 0, 1) := by decide +kernel
theorem dX5_polygon_6 : decode cX5_polygon 6 = .ok (.iload_n 1, 1) := by decide +kernel
theorem dX5_polygon_7 : decode cX5_polygon 7 = .ok (.iconst 1, 1) := by decide +kernel
theorem dX5_polygon_8 : decode cX5_polygon 8 = .ok (.invokevirtual 139, 3) := by decide +kernel
theorem dX5_polygon_11 : decode cX5_polygon 11 = .ok (.ifCond .eq 11, 3) := by decide +kernel
theorem dX5_polygon_14 : decode cX5_polygon 14 = .ok (.aload_n 0, 1) := by decide +kernel
theorem dX5_polygon_15 : decode cX5_polygon 15 = .ok (.iload_n 2, 1) := by decide +kernel
theorem dX5_polygon_16 : decode cX5_polygon 16 = .ok (.invokevirtual 69, 3) := by decide +kernel
theorem dX5_polygon_19 : decode cX5_polygon 19 = .ok (.ifCond .ne 6, 3) := by decide +kernel
theorem dX5_polygon_22 : decode cX5_polygon 22 = .ok (.bipush (-2), 2) := by decide +kernel
theorem dX5_polygon_24 : decode cX5_polygon 24 = .ok (.ireturn, 1) := by decide +kernel
theorem dX5_polygon_25 : decode cX5_polygon 25 = .ok (.aload_n 0, 1) := by decide +kernel
theorem dX5_polygon_26 : decode cX5_polygon 26 = .ok (.iload_n 1, 1) := by decide +kernel
theorem dX5_polygon_27 : decode cX5_polygon 27 = .ok (.invokevirtual 142, 3) := by decide +kernel
theorem dX5_polygon_30 : decode cX5_polygon 30 = .ok (.ifCond .ne 6, 3) := by decide +kernel
theorem dX5_polygon_33 : decode cX5_polygon 33 = .ok (.bipush (-4), 2) := by decide +kernel
theorem dX5_polygon_35 : decode cX5_polygon 35 = .ok (.ireturn, 1) := by decide +kernel
theorem dX5_polygon_36 : decode cX5_polygon 36 = .ok (.aload_n 0, 1) := by decide +kernel
theorem dX5_polygon_37 : decode cX5_polygon 37 = .ok (.iload_n 1, 1) := by decide +kernel
theorem dX5_polygon_38 : decode cX5_polygon 38 = .ok (.iload_n 2, 1) := by decide +kernel
theorem dX5_polygon_39 : decode cX5_polygon 39 = .ok (.invokevirtual 149, 3) := by decide +kernel
theorem dX5_polygon_42 : decode cX5_polygon 42 = .ok (.ifCond .eq 5, 3) := by decide +kernel
theorem dX5_polygon_45 : decode cX5_polygon 45 = .ok (.iconst 2, 1) := by decide +kernel
theorem dX5_polygon_46 : decode cX5_polygon 46 = .ok (.ireturn, 1) := by decide +kernel
theorem dX5_polygon_47 : decode cX5_polygon 47 = .ok (.iconst 0, 1) := by decide +kernel
theorem dX5_polygon_48 : decode cX5_polygon 48 = .ok (.istore_n 3, 1) := by decide +kernel
theorem dX5_polygon_49 : decode cX5_polygon 49 = .ok (.iconst 0, 1) := by decide +kernel
theorem dX5_polygon_50 : decode cX5_polygon 50 = .ok (.istore 4, 2) := by decide +kernel
theorem dX5_polygon_52 : decode cX5_polygon 52 = .ok (.iload 4, 2) := by decide +kernel
theorem dX5_polygon_54 : decode cX5_polygon 54 = .ok (.iload_n 1, 1) := by decide +kernel
theorem dX5_polygon_55 : decode cX5_polygon 55 = .ok (.if_icmp .ge 28, 3) := by decide +kernel
theorem dX5_polygon_58 : decode cX5_polygon 58 = .ok (.iload_n 3, 1) := by decide +kernel
theorem dX5_polygon_59 : decode cX5_polygon 59 = .ok (.aload_n 0, 1) := by decide +kernel
theorem dX5_polygon_60 : decode cX5_polygon 60 = .ok (.iload 4, 2) := by decide +kernel
theorem dX5_polygon_62 : decode cX5_polygon 62 = .ok (.iload_n 1, 1) := by decide +kernel
theorem dX5_polygon_63 : decode cX5_polygon 63 = .ok (.iload_n 2, 1) := by decide +kernel
theorem dX5_polygon_64 : decode cX5_polygon 64 = .ok (.invokevirtual 152, 3) := by decide +kernel
theorem dX5_polygon_67 : decode cX5_polygon 67 = .ok (.ifCond .ne 7, 3) := by decide +kernel
theorem dX5_polygon_70 : decode cX5_polygon 70 = .ok (.iconst 0, 1) := by decide +kernel
theorem dX5_polygon_71 : decode cX5_polygon 71 = .ok (.goto 4, 3) := by decide +kernel
theorem dX5_polygon_74 : decode cX5_polygon 74 = .ok (.iconst 1, 1) := by decide +kernel
theorem dX5_polygon_75 : decode cX5_polygon 75 = .ok (.iadd, 1) := by decide +kernel
theorem dX5_polygon_76 : decode cX5_polygon 76 = .ok (.istore_n 3, 1) := by decide +kernel
theorem dX5_polygon_77 : decode cX5_polygon 77 = .ok (.iinc 4 1, 3) := by decide +kernel
theorem dX5_polygon_80 : decode cX5_polygon 80 = .ok (.goto (-28), 3) := by decide +kernel
theorem dX5_polygon_83 : decode cX5_polygon 83 = .ok (.iload_n 3, 1) := by decide +kernel
theorem dX5_polygon_84 : decode cX5_polygon 84 = .ok (.iconst 2, 1) := by decide +kernel
theorem dX5_polygon_85 : decode cX5_polygon 85 = .ok (.irem, 1) := by decide +kernel
theorem dX5_polygon_86 : decode cX5_polygon 86 = .ok (.ireturn, 1) := by decide +kernel
theorem dX5_winding_0 : decode cX5_winding 0 = .ok (.aload_n 0, 1) := by decide +kernel
theorem dX5_winding_1 : decode cX5_winding 1 = .ok (.iconst 0, 1) := by decide +kernel
theorem dX5_winding_2 : decode cX5_winding 2 = .ok (.putfield 1, 3) := by decide +kernel
theorem dX5_winding_5 : decode cX5_winding 5 = .ok (.aload_n 0, 1) := by decide +kernel
theorem dX5_winding_6 : decode cX5_winding 6 = .ok (.iload_n 1, 1) := by decide +kernel
theorem dX5_winding_7 : decode cX5_winding 7 = .ok (.iconst 1, 1) := by decide +kernel
theorem dX5_winding_8 : decode cX5_winding 8 = .ok (.invokevirtual 139, 3) := by decide +kernel
theorem dX5_winding_11 : decode cX5_winding 11 = .ok (.ifCond .eq 19, 3) := by decide +kernel
theorem dX5_winding_14 : decode cX5_winding 14 = .ok (.aload_n 0, 1) := by decide +kernel
theorem dX5_winding_15 : decode cX5_winding 15 = .ok (.iload_n 2, 1) := by decide +kernel
theorem dX5_winding_16 : decode cX5_winding 16 = .ok (.invokevirtual 69, 3) := by decide +kernel
theorem dX5_winding_19 : decode cX5_winding 19 = .ok (.ifCond .eq 11, 3) := by decide +kernel
theorem dX5_winding_22 : decode cX5_winding 22 = .ok (.aload_n 0, 1) := by decide +kernel
theorem dX5_winding_23 : decode cX5_winding 23 = .ok (.iload_n 1, 1) := by decide +kernel
theorem dX5_winding_24 : decode cX5_winding 24 = .ok (.invokevirtual 142, 3) := by decide +kernel
theorem dX5_winding_27 : decode cX5_winding 27 = .ok (.ifCond .ne 6, 3) := by decide +kernel
theorem dX5_winding_30 : decode cX5_winding 30 = .ok (.bipush (-100), 2) := by decide +kernel
theorem dX5_winding_32 : decode cX5_winding 32 = .ok (.ireturn, 1) := by decide +kernel
theorem dX5_winding_33 : decode cX5_winding 33 = .ok (.aload_n 0, 1) := by decide +kernel
theorem dX5_winding_34 : decode cX5_winding 34 = .ok (.iload_n 1, 1) := by decide +kernel
theorem dX5_winding_35 : decode cX5_winding 35 = .ok (.iload_n 2, 1) := by decide +kernel
theorem dX5_winding_36 : decode cX5_winding 36 = .ok (.invokevirtual 149, 3) := by decide +kernel
theorem dX5_winding_39 : decode cX5_winding 39 = .ok (.ifCond .eq 6, 3) := by decide +kernel
theorem dX5_winding_42 : decode cX5_winding 42 = .ok (.bipush 100, 2) := by decide +kernel
theorem dX5_winding_44 : decode cX5_winding 44 = .ok (.ireturn, 1) := by decide +kernel
theorem dX5_winding_45 : decode cX5_winding 45 = .ok (.iconst 0, 1) := by decide +kernel
theorem dX5_winding_46 : decode cX5_winding 46 = .ok (.istore_n 3, 1) := by decide +kernel
theorem dX5_winding_47 : decode cX5_winding 47 = .ok (.iconst 0, 1) := by decide +kernel
theorem dX5_winding_48 : decode cX5_winding 48 = .ok (.istore 4, 2) := by decide +kernel
theorem dX5_winding_50 : decode cX5_winding 50 = .ok (.iload 4, 2) := by decide +kernel
theorem dX5_winding_52 : decode cX5_winding 52 = .ok (.iload_n 1, 1) := by decide +kernel
theorem dX5_winding_53 : decode cX5_winding 53 = .ok (.if_icmp .ge 20, 3) := by decide +kernel
theorem dX5_winding_56 : decode cX5_winding 56 = .ok (.iload_n 3, 1) := by decide +kernel
theorem dX5_winding_57 : decode cX5_winding 57 = .ok (.aload_n 0, 1) := by decide +kernel
theorem dX5_winding_58 : decode cX5_winding 58 = .ok (.iload 4, 2) := by decide +kernel
theorem dX5_winding_60 : decode cX5_winding 60 = .ok (.iload_n 1, 1) := by decide +kernel
theorem dX5_winding_61 : decode cX5_winding 61 = .ok (.iload_n 2, 1) := by decide +kernel
theorem dX5_winding_62 : decode cX5_winding 62 = .ok (.invokevirtual 152, 3) := by decide +kernel
theorem dX5_winding_65 : decode cX5_winding 65 = .ok (.iadd, 1) := by decide +kernel
theorem dX5_winding_66 : decode cX5_winding 66 = .ok (.istore_n 3, 1) := by decide +kernel
theorem dX5_winding_67 : decode cX5_winding 67 = .ok (.iinc 4 1, 3) := by decide +kernel
theorem dX5_winding_70 : decode cX5_winding 70 = .ok (.goto (-20), 3) := by decide +kernel
theorem dX5_winding_73 : decode cX5_winding 73 = .ok (.iload_n 3, 1) := by decide +kernel
theorem dX5_winding_74 : decode cX5_winding 74 = .ok (.ireturn, 1) := by decide +kernel
theorem dX5_far_0 : decode cX5_far 0 = .ok (.aload_n 0, 1) := by decide +kernel
theorem dX5_far_1 : decode cX5_far 1 = .ok (.iload_n 1, 1) := by decide +kernel
theorem dX5_far_2 : decode cX5_far 2 = .ok (.iload_n 2, 1) := by decide +kernel
theorem dX5_far_3 : decode cX5_far 3 = .ok (.iload_n 2, 1) := by decide +kernel
theorem dX5_far_4 : decode cX5_far 4 = .ok (.invokevirtual 127, 3) := by decide +kernel
theorem dX5_far_7 : decode cX5_far 7 = .ok (.lreturn, 1) := by decide +kernel
theorem dX5_nearest_0 : decode cX5_nearest 0 = .ok (.aload_n 0, 1) := by decide +kernel
theorem dX5_nearest_1 : decode cX5_nearest 1 = .ok (.iconst 0, 1) := by decide +kernel
theorem dX5_nearest_2 : decode cX5_nearest 2 = .ok (.putfield 1, 3) := by decide +kernel
theorem dX5_nearest_5 : decode cX5_nearest 5 = .ok (.aload_n 0, 1) := by decide +kernel
theorem dX5_nearest_6 : decode cX5_nearest 6 = .ok (.iload_n 1, 1) := by decide +kernel
theorem dX5_nearest_7 : decode cX5_nearest 7 = .ok (.invokevirtual 69, 3) := by decide +kernel
theorem dX5_nearest_10 : decode cX5_nearest 10 = .ok (.ifCond .eq 12, 3) := by decide +kernel
theorem dX5_nearest_13 : decode cX5_nearest 13 = .ok (.aload_n 0, 1) := by decide +kernel
theorem dX5_nearest_14 : decode cX5_nearest 14 = .ok (.iload_n 2, 1) := by decide +kernel
theorem dX5_nearest_15 : decode cX5_nearest 15 = .ok (.iconst 1, 1) := by decide +kernel
theorem dX5_nearest_16 : decode cX5_nearest 16 = .ok (.invokevirtual 139, 3) := by decide +kernel
theorem dX5_nearest_19 : decode cX5_nearest 19 = .ok (.ifCond .ne 6, 3) := by decide +kernel
theorem dX5_nearest_22 : decode cX5_nearest 22 = .ok (.bipush (-2), 2) := by decide +kernel
theorem dX5_nearest_24 : decode cX5_nearest 24 = .ok (.ireturn, 1) := by decide +kernel
theorem dX5_nearest_25 : decode cX5_nearest 25 = .ok (.aload_n 0, 1) := by decide +kernel
theorem dX5_nearest_26 : decode cX5_nearest 26 = .ok (.iload_n 2, 1) := by decide +kernel
theorem dX5_nearest_27 : decode cX5_nearest 27 = .ok (.invokevirtual 142, 3) := by decide +kernel
theorem dX5_nearest_30 : decode cX5_nearest 30 = .ok (.ifCond .ne 6, 3) := by decide +kernel
theorem dX5_nearest_33 : decode cX5_nearest 33 = .ok (.bipush (-4), 2) := by decide +kernel
theorem dX5_nearest_35 : decode cX5_nearest 35 = .ok (.ireturn, 1) := by decide +kernel
theorem dX5_nearest_36 : decode cX5_nearest 36 = .ok (.iconst 0, 1) := by decide +kernel
theorem dX5_nearest_37 : decode cX5_nearest 37 = .ok (.istore_n 3, 1) := by decide +kernel
theorem dX5_nearest_38 : decode cX5_nearest 38 = .ok (.aload_n 0, 1) := by decide +kernel
theorem dX5_nearest_39 : decode cX5_nearest 39 = .ok (.iload_n 1, 1) := by decide +kernel
theorem dX5_nearest_40 : decode cX5_nearest 40 = .ok (.aload_n 0, 1) := by decide +kernel
theorem dX5_nearest_41 : decode cX5_nearest 41 = .ok (.getfield 20, 3) := by decide +kernel
theorem dX5_nearest_44 : decode cX5_nearest 44 = .ok (.iconst 0, 1) := by decide +kernel
theorem dX5_nearest_45 : decode cX5_nearest 45 = .ok (.iaload, 1) := by decide +kernel
theorem dX5_nearest_46 : decode cX5_nearest 46 = .ok (.invokevirtual 155, 3) := by decide +kernel
theorem dX5_nearest_49 : decode cX5_nearest 49 = .ok (.lstore 4, 2) := by decide +kernel
theorem dX5_nearest_51 : decode cX5_nearest 51 = .ok (.iconst 0, 1) := by decide +kernel
theorem dX5_nearest_52 : decode cX5_nearest 52 = .ok (.istore 6, 2) := by decide +kernel
theorem dX5_nearest_54 : decode cX5_nearest 54 = .ok (.iload 6, 2) := by decide +kernel
theorem dX5_nearest_56 : decode cX5_nearest 56 = .ok (.iload_n 2, 1) := by decide +kernel
theorem dX5_nearest_57 : decode cX5_nearest 57 = .ok (.if_icmp .ge 74, 3) := by decide +kernel
theorem dX5_nearest_60 : decode cX5_nearest 60 = .ok (.aload_n 0, 1) := by decide +kernel
theorem dX5_nearest_61 : decode cX5_nearest 61 = .ok (.iload_n 1, 1) := by decide +kernel
theorem dX5_nearest_62 : decode cX5_nearest 62 = .ok (.aload_n 0, 1) := by decide +kernel
theorem dX5_nearest_63 : decode cX5_nearest 63 = .ok (.getfield 20, 3) := by decide +kernel
theorem dX5_nearest_66 : decode cX5_nearest 66 = .ok (.iload 6, 2) := by decide +kernel
theorem dX5_nearest_68 : decode cX5_nearest 68 = .ok (.iaload, 1) := by decide +kernel
theorem dX5_nearest_69 : decode cX5_nearest 69 = .ok (.invokevirtual 155, 3) := by decide +kernel
theorem dX5_nearest_72 : decode cX5_nearest 72 = .ok (.lstore 7, 2) := by decide +kernel
theorem dX5_nearest_74 : decode cX5_nearest 74 = .ok (.lload 7, 2) := by decide +kernel
theorem dX5_nearest_76 : decode cX5_nearest 76 = .ok (.lload 4, 2) := by decide +kernel
theorem dX5_nearest_78 : decode cX5_nearest 78 = .ok (.lcmp, 1) := by decide +kernel
theorem dX5_nearest_79 : decode cX5_nearest 79 = .ok (.ifCond .ge 10, 3) := by decide +kernel
theorem dX5_nearest_82 : decode cX5_nearest 82 = .ok (.iconst 1, 1) := by decide +kernel
theorem dX5_nearest_83 : decode cX5_nearest 83 = .ok (.iload 6, 2) := by decide +kernel
theorem dX5_nearest_85 : decode cX5_nearest 85 = .ok (.ishl, 1) := by decide +kernel
theorem dX5_nearest_86 : decode cX5_nearest 86 = .ok (.goto 21, 3) := by decide +kernel
theorem dX5_nearest_89 : decode cX5_nearest 89 = .ok (.lload 7, 2) := by decide +kernel
theorem dX5_nearest_91 : decode cX5_nearest 91 = .ok (.lload 4, 2) := by decide +kernel
theorem dX5_nearest_93 : decode cX5_nearest 93 = .ok (.lcmp, 1) := by decide +kernel
theorem dX5_nearest_94 : decode cX5_nearest 94 = .ok (.ifCond .ne 12, 3) := by decide +kernel
theorem dX5_nearest_97 : decode cX5_nearest 97 = .ok (.iload_n 3, 1) := by decide +kernel
theorem dX5_nearest_98 : decode cX5_nearest 98 = .ok (.iconst 1, 1) := by decide +kernel
theorem dX5_nearest_99 : decode cX5_nearest 99 = .ok (.iload 6, 2) := by decide +kernel
theorem dX5_nearest_101 : decode cX5_nearest 101 = .ok (.ishl, 1) := by decide +kernel
theorem dX5_nearest_102 : decode cX5_nearest 102 = .ok (.ior, 1) := by decide +kernel
theorem dX5_nearest_103 : decode cX5_nearest 103 = .ok (.goto 4, 3) := by decide +kernel
theorem dX5_nearest_106 : decode cX5_nearest 106 = .ok (.iload_n 3, 1) := by decide +kernel
theorem dX5_nearest_107 : decode cX5_nearest 107 = .ok (.istore_n 3, 1) := by decide +kernel
theorem dX5_nearest_108 : decode cX5_nearest 108 = .ok (.lload 7, 2) := by decide +kernel
theorem dX5_nearest_110 : decode cX5_nearest 110 = .ok (.lload 4, 2) := by decide +kernel
theorem dX5_nearest_112 : decode cX5_nearest 112 = .ok (.lcmp, 1) := by decide +kernel
theorem dX5_nearest_113 : decode cX5_nearest 113 = .ok (.ifCond .ge 8, 3) := by decide +kernel
theorem dX5_nearest_116 : decode cX5_nearest 116 = .ok (.lload 7, 2) := by decide +kernel
theorem dX5_nearest_118 : decode cX5_nearest 118 = .ok (.goto 5, 3) := by decide +kernel
theorem dX5_nearest_121 : decode cX5_nearest 121 = .ok (.lload 4, 2) := by decide +kernel
theorem dX5_nearest_123 : decode cX5_nearest 123 = .ok (.lstore 4, 2) := by decide +kernel
theorem dX5_nearest_125 : decode cX5_nearest 125 = .ok (.iinc 6 1, 3) := by decide +kernel
theorem dX5_nearest_128 : decode cX5_nearest 128 = .ok (.goto (-74), 3) := by decide +kernel
theorem dX5_nearest_131 : decode cX5_nearest 131 = .ok (.iload_n 3, 1) := by decide +kernel
theorem dX5_nearest_132 : decode cX5_nearest 132 = .ok (.ireturn, 1) := by decide +kernel
theorem dX5_half_0 : decode cX5_half 0 = .ok (.aload_n 0, 1) := by decide +kernel
theorem dX5_half_1 : decode cX5_half 1 = .ok (.getfield 17, 3) := by decide +kernel
theorem dX5_half_4 : decode cX5_half 4 = .ok (.iload_n 2, 1) := by decide +kernel
theorem dX5_half_5 : decode cX5_half 5 = .ok (.iaload, 1) := by decide +kernel
theorem dX5_half_6 : decode cX5_half 6 = .ok (.aload_n 0, 1) := by decide +kernel
theorem dX5_half_7 : decode cX5_half 7 = .ok (.getfield 17, 3) := by decide +kernel
theorem dX5_half_10 : decode cX5_half 10 = .ok (.iload_n 1, 1) := by decide +kernel
theorem dX5_half_11 : decode cX5_half 11 = .ok (.iaload, 1) := by decide +kernel
theorem dX5_half_12 : decode cX5_half 12 = .ok (.if_icmp .gt 33, 3) := by decide +kernel
theorem dX5_half_15 : decode cX5_half 15 = .ok (.aload_n 0, 1) := by decide +kernel
theorem dX5_half_16 : decode cX5_half 16 = .ok (.getfield 17, 3) := by decide +kernel
theorem dX5_half_19 : decode cX5_half 19 = .ok (.iload_n 2, 1) := by decide +kernel
theorem dX5_half_20 : decode cX5_half 20 = .ok (.iaload, 1) := by decide +kernel
theorem dX5_half_21 : decode cX5_half 21 = .ok (.aload_n 0, 1) := by decide +kernel
theorem dX5_half_22 : decode cX5_half 22 = .ok (.getfield 17, 3) := by decide +kernel
theorem dX5_half_25 : decode cX5_half 25 = .ok (.iload_n 1, 1) := by decide +kernel
theorem dX5_half_26 : decode cX5_half 26 = .ok (.iaload, 1) := by decide +kernel
theorem dX5_half_27 : decode cX5_half 27 = .ok (.if_icmp .ne 22, 3) := by decide +kernel
theorem dX5_half_30 : decode cX5_half 30 = .ok (.aload_n 0, 1) := by decide +kernel
theorem dX5_half_31 : decode cX5_half 31 = .ok (.getfield 13, 3) := by decide +kernel
theorem dX5_half_34 : decode cX5_half 34 = .ok (.iload_n 2, 1) := by decide +kernel
theorem dX5_half_35 : decode cX5_half 35 = .ok (.iaload, 1) := by decide +kernel
theorem dX5_half_36 : decode cX5_half 36 = .ok (.aload_n 0, 1) := by decide +kernel
theorem dX5_half_37 : decode cX5_half 37 = .ok (.getfield 13, 3) := by decide +kernel
theorem dX5_half_40 : decode cX5_half 40 = .ok (.iload_n 1, 1) := by decide +kernel
theorem dX5_half_41 : decode cX5_half 41 = .ok (.iaload, 1) := by decide +kernel
theorem dX5_half_42 : decode cX5_half 42 = .ok (.if_icmp .le 7, 3) := by decide +kernel
theorem dX5_half_45 : decode cX5_half 45 = .ok (.iconst 0, 1) := by decide +kernel
theorem dX5_half_46 : decode cX5_half 46 = .ok (.goto 4, 3) := by decide +kernel
theorem dX5_half_49 : decode cX5_half 49 = .ok (.iconst 1, 1) := by decide +kernel
theorem dX5_half_50 : decode cX5_half 50 = .ok (.ireturn, 1) := by decide +kernel
theorem dX5_isAhead_0 : decode cX5_isAhead 0 = .ok (.aload_n 0, 1) := by decide +kernel
theorem dX5_isAhead_1 : decode cX5_isAhead 1 = .ok (.getfield 20, 3) := by decide +kernel
theorem dX5_isAhead_4 : decode cX5_isAhead 4 = .ok (.iload_n 2, 1) := by decide +kernel
theorem dX5_isAhead_5 : decode cX5_isAhead 5 = .ok (.iaload, 1) := by decide +kernel
theorem dX5_isAhead_6 : decode cX5_isAhead 6 = .ok (.istore 4, 2) := by decide +kernel
theorem dX5_isAhead_8 : decode cX5_isAhead 8 = .ok (.aload_n 0, 1) := by decide +kernel
theorem dX5_isAhead_9 : decode cX5_isAhead 9 = .ok (.getfield 20, 3) := by decide +kernel
theorem dX5_isAhead_12 : decode cX5_isAhead 12 = .ok (.iload_n 3, 1) := by decide +kernel
theorem dX5_isAhead_13 : decode cX5_isAhead 13 = .ok (.iaload, 1) := by decide +kernel
theorem dX5_isAhead_14 : decode cX5_isAhead 14 = .ok (.istore 5, 2) := by decide +kernel
theorem dX5_isAhead_16 : decode cX5_isAhead 16 = .ok (.aload_n 0, 1) := by decide +kernel
theorem dX5_isAhead_17 : decode cX5_isAhead 17 = .ok (.iload_n 1, 1) := by decide +kernel
theorem dX5_isAhead_18 : decode cX5_isAhead 18 = .ok (.iload 4, 2) := by decide +kernel
theorem dX5_isAhead_20 : decode cX5_isAhead 20 = .ok (.invokevirtual 107, 3) := by decide +kernel
theorem dX5_isAhead_23 : decode cX5_isAhead 23 = .ok (.istore 6, 2) := by decide +kernel
theorem dX5_isAhead_25 : decode cX5_isAhead 25 = .ok (.aload_n 0, 1) := by decide +kernel
theorem dX5_isAhead_26 : decode cX5_isAhead 26 = .ok (.iload_n 1, 1) := by decide +kernel
theorem dX5_isAhead_27 : decode cX5_isAhead 27 = .ok (.iload 5, 2) := by decide +kernel
theorem dX5_isAhead_29 : decode cX5_isAhead 29 = .ok (.invokevirtual 107, 3) := by decide +kernel
theorem dX5_isAhead_32 : decode cX5_isAhead 32 = .ok (.istore 7, 2) := by decide +kernel
theorem dX5_isAhead_34 : decode cX5_isAhead 34 = .ok (.iload 6, 2) := by decide +kernel
theorem dX5_isAhead_36 : decode cX5_isAhead 36 = .ok (.ifCond .ne 8, 3) := by decide +kernel
theorem dX5_isAhead_39 : decode cX5_isAhead 39 = .ok (.iload 7, 2) := by decide +kernel
theorem dX5_isAhead_41 : decode cX5_isAhead 41 = .ok (.ifCond .eq 24, 3) := by decide +kernel
theorem dX5_isAhead_44 : decode cX5_isAhead 44 = .ok (.iload 6, 2) := by decide +kernel
theorem dX5_isAhead_46 : decode cX5_isAhead 46 = .ok (.ifCond .eq 17, 3) := by decide +kernel
theorem dX5_isAhead_49 : decode cX5_isAhead 49 = .ok (.iload 7, 2) := by decide +kernel
theorem dX5_isAhead_51 : decode cX5_isAhead 51 = .ok (.ifCond .eq 8, 3) := by decide +kernel
theorem dX5_isAhead_54 : decode cX5_isAhead 54 = .ok (.iload_n 2, 1) := by decide +kernel
theorem dX5_isAhead_55 : decode cX5_isAhead 55 = .ok (.iload_n 3, 1) := by decide +kernel
theorem dX5_isAhead_56 : decode cX5_isAhead 56 = .ok (.if_icmp .ge 7, 3) := by decide +kernel
theorem dX5_isAhead_59 : decode cX5_isAhead 59 = .ok (.iconst 1, 1) := by decide +kernel
theorem dX5_isAhead_60 : decode cX5_isAhead 60 = .ok (.goto 4, 3) := by decide +kernel
theorem dX5_isAhead_63 : decode cX5_isAhead 63 = .ok (.iconst 0, 1) := by decide +kernel
theorem dX5_isAhead_64 : decode cX5_isAhead 64 = .ok (.ireturn, 1) := by decide +kernel
theorem dX5_isAhead_65 : decode cX5_isAhead 65 = .ok (.aload_n 0, 1) := by decide +kernel
theorem dX5_isAhead_66 : decode cX5_isAhead 66 = .ok (.iload_n 1, 1) := by decide +kernel
theorem dX5_isAhead_67 : decode cX5_isAhead 67 = .ok (.iload 4, 2) := by decide +kernel
theorem dX5_isAhead_69 : decode cX5_isAhead 69 = .ok (.invokevirtual 159, 3) := by decide +kernel
theorem dX5_isAhead_72 : decode cX5_isAhead 72 = .ok (.aload_n 0, 1) := by decide +kernel
theorem dX5_isAhead_73 : decode cX5_isAhead 73 = .ok (.iload_n 1, 1) := by decide +kernel
theorem dX5_isAhead_74 : decode cX5_isAhead 74 = .ok (.iload 5, 2) := by decide +kernel
theorem dX5_isAhead_76 : decode cX5_isAhead 76 = .ok (.invokevirtual 159, 3) := by decide +kernel
theorem dX5_isAhead_79 : decode cX5_isAhead 79 = .ok (.if_icmp .eq 26, 3) := by decide +kernel
theorem dX5_isAhead_82 : decode cX5_isAhead 82 = .ok (.aload_n 0, 1) := by decide +kernel
theorem dX5_isAhead_83 : decode cX5_isAhead 83 = .ok (.iload_n 1, 1) := by decide +kernel
theorem dX5_isAhead_84 : decode cX5_isAhead 84 = .ok (.iload 4, 2) := by decide +kernel
theorem dX5_isAhead_86 : decode cX5_isAhead 86 = .ok (.invokevirtual 159, 3) := by decide +kernel
theorem dX5_isAhead_89 : decode cX5_isAhead 89 = .ok (.aload_n 0, 1) := by decide +kernel
theorem dX5_isAhead_90 : decode cX5_isAhead 90 = .ok (.iload_n 1, 1) := by decide +kernel
theorem dX5_isAhead_91 : decode cX5_isAhead 91 = .ok (.iload 5, 2) := by decide +kernel
theorem dX5_isAhead_93 : decode cX5_isAhead 93 = .ok (.invokevirtual 159, 3) := by decide +kernel
theorem dX5_isAhead_96 : decode cX5_isAhead 96 = .ok (.if_icmp .ge 7, 3) := by decide +kernel
theorem dX5_isAhead_99 : decode cX5_isAhead 99 = .ok (.iconst 1, 1) := by decide +kernel
theorem dX5_isAhead_100 : decode cX5_isAhead 100 = .ok (.goto 4, 3) := by decide +kernel
theorem dX5_isAhead_103 : decode cX5_isAhead 103 = .ok (.iconst 0, 1) := by decide +kernel
theorem dX5_isAhead_104 : decode cX5_isAhead 104 = .ok (.ireturn, 1) := by decide +kernel
theorem dX5_isAhead_105 : decode cX5_isAhead 105 = .ok (.aload_n 0, 1) := by decide +kernel
theorem dX5_isAhead_106 : decode cX5_isAhead 106 = .ok (.iload_n 1, 1) := by decide +kernel
theorem dX5_isAhead_107 : decode cX5_isAhead 107 = .ok (.iload 4, 2) := by decide +kernel
theorem dX5_isAhead_109 : decode cX5_isAhead 109 = .ok (.iload 5, 2) := by decide +kernel
theorem dX5_isAhead_111 : decode cX5_isAhead 111 = .ok (.invokevirtual 58, 3) := by decide +kernel
theorem dX5_isAhead_114 : decode cX5_isAhead 114 = .ok (.istore 8, 2) := by decide +kernel
theorem dX5_isAhead_116 : decode cX5_isAhead 116 = .ok (.iload 8, 2) := by decide +kernel
theorem dX5_isAhead_118 : decode cX5_isAhead 118 = .ok (.ifCond .eq 14, 3) := by decide +kernel
theorem dX5_isAhead_121 : decode cX5_isAhead 121 = .ok (.iload 8, 2) := by decide +kernel
theorem dX5_isAhead_123 : decode cX5_isAhead 123 = .ok (.ifCond .le 7, 3) := by decide +kernel
theorem dX5_isAhead_126 : decode cX5_isAhead 126 = .ok (.iconst 1, 1) := by decide +kernel
theorem dX5_isAhead_127 : decode cX5_isAhead 127 = .ok (.goto 4, 3) := by decide +kernel
theorem dX5_isAhead_130 : decode cX5_isAhead 130 = .ok (.iconst 0, 1) := by decide +kernel
theorem dX5_isAhead_131 : decode cX5_isAhead 131 = .ok (.ireturn, 1) := by decide +kernel
theorem dX5_isAhead_132 : decode cX5_isAhead 132 = .ok (.aload_n 0, 1) := by decide +kernel
theorem dX5_isAhead_133 : decode cX5_isAhead 133 = .ok (.iload_n 1, 1) := by decide +kernel
theorem dX5_isAhead_134 : decode cX5_isAhead 134 = .ok (.iload 4, 2) := by decide +kernel
theorem dX5_isAhead_136 : decode cX5_isAhead 136 = .ok (.invokevirtual 155, 3) := by decide +kernel
theorem dX5_isAhead_139 : decode cX5_isAhead 139 = .ok (.aload_n 0, 1) := by decide +kernel
theorem dX5_isAhead_140 : decode cX5_isAhead 140 = .ok (.iload_n 1, 1) := by decide +kernel
theorem dX5_isAhead_141 : decode cX5_isAhead 141 = .ok (.iload 5, 2) := by decide +kernel
theorem dX5_isAhead_143 : decode cX5_isAhead 143 = .ok (.invokevirtual 155, 3) := by decide +kernel
theorem dX5_isAhead_146 : decode cX5_isAhead 146 = .ok (.lcmp, 1) := by decide +kernel
theorem dX5_isAhead_147 : decode cX5_isAhead 147 = .ok (.ifCond .eq 29, 3) := by decide +kernel
theorem dX5_isAhead_150 : decode cX5_isAhead 150 = .ok (.aload_n 0, 1) := by decide +kernel
theorem dX5_isAhead_151 : decode cX5_isAhead 151 = .ok (.iload_n 1, 1) := by decide +kernel
theorem dX5_isAhead_152 : decode cX5_isAhead 152 = .ok (.iload 4, 2) := by decide +kernel
theorem dX5_isAhead_154 : decode cX5_isAhead 154 = .ok (.invokevirtual 155, 3) := by decide +kernel
theorem dX5_isAhead_157 : decode cX5_isAhead 157 = .ok (.aload_n 0, 1) := by decide +kernel
theorem dX5_isAhead_158 : decode cX5_isAhead 158 = .ok (.iload_n 1, 1) := by decide +kernel
theorem dX5_isAhead_159 : decode cX5_isAhead 159 = .ok (.iload 5, 2) := by decide +kernel
theorem dX5_isAhead_161 : decode cX5_isAhead 161 = .ok (.invokevirtual 155, 3) := by decide +kernel
theorem dX5_isAhead_164 : decode cX5_isAhead 164 = .ok (.lcmp, 1) := by decide +kernel
theorem dX5_isAhead_165 : decode cX5_isAhead 165 = .ok (.ifCond .ge 7, 3) := by decide +kernel
theorem dX5_isAhead_168 : decode cX5_isAhead 168 = .ok (.iconst 1, 1) := by decide +kernel
theorem dX5_isAhead_169 : decode cX5_isAhead 169 = .ok (.goto 17, 3) := by decide +kernel
theorem dX5_isAhead_172 : decode cX5_isAhead 172 = .ok (.iconst 0, 1) := by decide +kernel
theorem dX5_isAhead_173 : decode cX5_isAhead 173 = .ok (.goto 13, 3) := by decide +kernel
theorem dX5_isAhead_176 : decode cX5_isAhead 176 = .ok (.iload_n 2, 1) := by decide +kernel
theorem dX5_isAhead_177 : decode cX5_isAhead 177 = .ok (.iload_n 3, 1) := by decide +kernel
theorem dX5_isAhead_178 : decode cX5_isAhead 178 = .ok (.if_icmp .ge 7, 3) := by decide +kernel
theorem dX5_isAhead_181 : decode cX5_isAhead 181 = .ok (.iconst 1, 1) := by decide +kernel
theorem dX5_isAhead_182 : decode cX5_isAhead 182 = .ok (.goto 4, 3) := by decide +kernel
theorem dX5_isAhead_185 : decode cX5_isAhead 185 = .ok (.iconst 0, 1) := by decide +kernel
theorem dX5_isAhead_186 : decode cX5_isAhead 186 = .ok (.ireturn, 1) := by decide +kernel
theorem dX5_around_0 : decode cX5_around 0 = .ok (.aload_n 0, 1) := by decide +kernel
theorem dX5_around_1 : decode cX5_around 1 = .ok (.iconst 0, 1) := by decide +kernel
theorem dX5_around_2 : decode cX5_around 2 = .ok (.putfield 1, 3) := by decide +kernel
theorem dX5_around_5 : decode cX5_around 5 = .ok (.aload_n 0, 1) := by decide +kernel
theorem dX5_around_6 : decode cX5_around 6 = .ok (.iload_n 1, 1) := by decide +kernel
theorem dX5_around_7 : decode cX5_around 7 = .ok (.invokevirtual 69, 3) := by decide +kernel
theorem dX5_around_10 : decode cX5_around 10 = .ok (.ifCond .eq 21, 3) := by decide +kernel
theorem dX5_around_13 : decode cX5_around 13 = .ok (.aload_n 0, 1) := by decide +kernel
theorem dX5_around_14 : decode cX5_around 14 = .ok (.iload_n 2, 1) := by decide +kernel
theorem dX5_around_15 : decode cX5_around 15 = .ok (.iconst 1, 1) := by decide +kernel
theorem dX5_around_16 : decode cX5_around 16 = .ok (.invokevirtual 139, 3) := by decide +kernel
theorem dX5_around_19 : decode cX5_around 19 = .ok (.ifCond .eq 12, 3) := by decide +kernel
theorem dX5_around_22 : decode cX5_around 22 = .ok (.iload_n 3, 1) := by decide +kernel
theorem dX5_around_23 : decode cX5_around 23 = .ok (.ifCond .lt 8, 3) := by decide +kernel
theorem dX5_around_26 : decode cX5_around 26 = .ok (.iload_n 3, 1) := by decide +kernel
theorem dX5_around_27 : decode cX5_around 27 = .ok (.iload_n 2, 1) := by decide +kernel
theorem dX5_around_28 : decode cX5_around 28 = .ok (.if_icmp .lt 6, 3) := by decide +kernel
theorem dX5_around_31 : decode cX5_around 31 = .ok (.bipush (-2), 2) := by decide +kernel
theorem dX5_around_33 : decode cX5_around 33 = .ok (.ireturn, 1) := by decide +kernel
theorem dX5_around_34 : decode cX5_around 34 = .ok (.aload_n 0, 1) := by decide +kernel
theorem dX5_around_35 : decode cX5_around 35 = .ok (.iload_n 2, 1) := by decide +kernel
theorem dX5_around_36 : decode cX5_around 36 = .ok (.invokevirtual 142, 3) := by decide +kernel
theorem dX5_around_39 : decode cX5_around 39 = .ok (.ifCond .ne 6, 3) := by decide +kernel
theorem dX5_around_42 : decode cX5_around 42 = .ok (.bipush (-4), 2) := by decide +kernel
theorem dX5_around_44 : decode cX5_around 44 = .ok (.ireturn, 1) := by decide +kernel
theorem dX5_around_45 : decode cX5_around 45 = .ok (.iconst (-1), 1) := by decide +kernel
theorem dX5_around_46 : decode cX5_around 46 = .ok (.istore 4, 2) := by decide +kernel
theorem dX5_around_48 : decode cX5_around 48 = .ok (.iconst 0, 1) := by decide +kernel
theorem dX5_around_49 : decode cX5_around 49 = .ok (.istore 5, 2) := by decide +kernel
theorem dX5_around_51 : decode cX5_around 51 = .ok (.iload 5, 2) := by decide +kernel
theorem dX5_around_53 : decode cX5_around 53 = .ok (.iload_n 2, 1) := by decide +kernel
theorem dX5_around_54 : decode cX5_around 54 = .ok (.if_icmp .ge 71, 3) := by decide +kernel
theorem dX5_around_57 : decode cX5_around 57 = .ok (.iconst 0, 1) := by decide +kernel
theorem dX5_around_58 : decode cX5_around 58 = .ok (.istore 6, 2) := by decide +kernel
theorem dX5_around_60 : decode cX5_around 60 = .ok (.iconst 0, 1) := by decide +kernel
theorem dX5_around_61 : decode cX5_around 61 = .ok (.istore 7, 2) := by decide +kernel
theorem dX5_around_63 : decode cX5_around 63 = .ok (.iload 7, 2) := by decide +kernel
theorem dX5_around_65 : decode cX5_around 65 = .ok (.iload_n 2, 1) := by decide +kernel
theorem dX5_around_66 : decode cX5_around 66 = .ok (.if_icmp .ge 38, 3) := by decide +kernel
theorem dX5_around_69 : decode cX5_around 69 = .ok (.iload 6, 2) := by decide +kernel
theorem dX5_around_71 : decode cX5_around 71 = .ok (.iload 7, 2) := by decide +kernel
theorem dX5_around_73 : decode cX5_around 73 = .ok (.iload 5, 2) := by decide +kernel
theorem dX5_around_75 : decode cX5_around 75 = .ok (.if_icmp .eq 19, 3) := by decide +kernel
theorem dX5_around_78 : decode cX5_around 78 = .ok (.aload_n 0, 1) := by decide +kernel
theorem dX5_around_79 : decode cX5_around 79 = .ok (.iload_n 1, 1) := by decide +kernel
theorem dX5_around_80 : decode cX5_around 80 = .ok (.iload 7, 2) := by decide +kernel
theorem dX5_around_82 : decode cX5_around 82 = .ok (.iload 5, 2) := by decide +kernel
theorem dX5_around_84 : decode cX5_around 84 = .ok (.invokevirtual 162, 3) := by decide +kernel
theorem dX5_around_87 : decode cX5_around 87 = .ok (.ifCond .eq 7, 3) := by decide +kernel
theorem dX5_around_90 : decode cX5_around 90 = .ok (.iconst 1, 1) := by decide +kernel
theorem dX5_around_91 : decode cX5_around 91 = .ok (.goto 4, 3) := by decide +kernel
theorem dX5_around_94 : decode cX5_around 94 = .ok (.iconst 0, 1) := by decide +kernel
theorem dX5_around_95 : decode cX5_around 95 = .ok (.iadd, 1) := by decide +kernel
theorem dX5_around_96 : decode cX5_around 96 = .ok (.istore 6, 2) := by decide +kernel
theorem dX5_around_98 : decode cX5_around 98 = .ok (.iinc 7 1, 3) := by decide +kernel
theorem dX5_around_101 : decode cX5_around 101 = .ok (.goto (-38), 3) := by decide +kernel
theorem dX5_around_104 : decode cX5_around 104 = .ok (.iload 6, 2) := by decide +kernel
theorem dX5_around_106 : decode cX5_around 106 = .ok (.iload_n 3, 1) := by decide +kernel
theorem dX5_around_107 : decode cX5_around 107 = .ok (.if_icmp .ne 8, 3) := by decide +kernel
theorem dX5_around_110 : decode cX5_around 110 = .ok (.iload 5, 2) := by decide +kernel
theorem dX5_around_112 : decode cX5_around 112 = .ok (.goto 5, 3) := by decide +kernel
theorem dX5_around_115 : decode cX5_around 115 = .ok (.iload 4, 2) := by decide +kernel
theorem dX5_around_117 : decode cX5_around 117 = .ok (.istore 4, 2) := by decide +kernel
theorem dX5_around_119 : decode cX5_around 119 = .ok (.iinc 5 1, 3) := by decide +kernel
theorem dX5_around_122 : decode cX5_around 122 = .ok (.goto (-71), 3) := by decide +kernel
theorem dX5_around_125 : decode cX5_around 125 = .ok (.iload 4, 2) := by decide +kernel
theorem dX5_around_127 : decode cX5_around 127 = .ok (.ireturn, 1) := by decide +kernel
theorem dX5_isLess_0 : decode cX5_isLess 0 = .ok (.aload_n 0, 1) := by decide +kernel
theorem dX5_isLess_1 : decode cX5_isLess 1 = .ok (.getfield 20, 3) := by decide +kernel
theorem dX5_isLess_4 : decode cX5_isLess 4 = .ok (.iload_n 1, 1) := by decide +kernel
theorem dX5_isLess_5 : decode cX5_isLess 5 = .ok (.iaload, 1) := by decide +kernel
theorem dX5_isLess_6 : decode cX5_isLess 6 = .ok (.istore_n 3, 1) := by decide +kernel
theorem dX5_isLess_7 : decode cX5_isLess 7 = .ok (.aload_n 0, 1) := by decide +kernel
theorem dX5_isLess_8 : decode cX5_isLess 8 = .ok (.getfield 20, 3) := by decide +kernel
theorem dX5_isLess_11 : decode cX5_isLess 11 = .ok (.iload_n 2, 1) := by decide +kernel
theorem dX5_isLess_12 : decode cX5_isLess 12 = .ok (.iaload, 1) := by decide +kernel
theorem dX5_isLess_13 : decode cX5_isLess 13 = .ok (.istore 4, 2) := by decide +kernel
theorem dX5_isLess_15 : decode cX5_isLess 15 = .ok (.aload_n 0, 1) := by decide +kernel
theorem dX5_isLess_16 : decode cX5_isLess 16 = .ok (.getfield 13, 3) := by decide +kernel
theorem dX5_isLess_19 : decode cX5_isLess 19 = .ok (.iload_n 3, 1) := by decide +kernel
theorem dX5_isLess_20 : decode cX5_isLess 20 = .ok (.iaload, 1) := by decide +kernel
theorem dX5_isLess_21 : decode cX5_isLess 21 = .ok (.aload_n 0, 1) := by decide +kernel
theorem dX5_isLess_22 : decode cX5_isLess 22 = .ok (.getfield 13, 3) := by decide +kernel
theorem dX5_isLess_25 : decode cX5_isLess 25 = .ok (.iload 4, 2) := by decide +kernel
theorem dX5_isLess_27 : decode cX5_isLess 27 = .ok (.iaload, 1) := by decide +kernel
theorem dX5_isLess_28 : decode cX5_isLess 28 = .ok (.if_icmp .eq 27, 3) := by decide +kernel
