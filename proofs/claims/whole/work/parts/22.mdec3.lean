theorem dX5_isLess_31 : decode cX5_isLess 31 = .ok (.aload_n 0, 1) := by decide +kernel
theorem dX5_isLess_32 : decode cX5_isLess 32 = .ok (.getfield 13, 3) := by decide +kernel
theorem dX5_isLess_35 : decode cX5_isLess 35 = .ok (.iload_n 3, 1) := by decide +kernel
theorem dX5_isLess_36 : decode cX5_isLess 36 = .ok (.iaload, 1) := by decide +kernel
theorem dX5_isLess_37 : decode cX5_isLess 37 = .ok (.aload_n 0, 1) := by decide +kernel
theorem dX5_isLess_38 : decode cX5_isLess 38 = .ok (.getfield 13, 3) := by decide +kernel
theorem dX5_isLess_41 : decode cX5_isLess 41 = .ok (.iload 4, 2) := by decide +kernel
theorem dX5_isLess_43 : decode cX5_isLess 43 = .ok (.iaload, 1) := by decide +kernel
theorem dX5_isLess_44 : decode cX5_isLess 44 = .ok (.if_icmp .ge 7, 3) := by decide +kernel
theorem dX5_isLess_47 : decode cX5_isLess 47 = .ok (.iconst 1, 1) := by decide +kernel
theorem dX5_isLess_48 : decode cX5_isLess 48 = .ok (.goto 57, 3) := by decide +kernel
theorem dX5_isLess_51 : decode cX5_isLess 51 = .ok (.iconst 0, 1) := by decide +kernel
theorem dX5_isLess_52 : decode cX5_isLess 52 = .ok (.goto 53, 3) := by decide +kernel
theorem dX5_isLess_55 : decode cX5_isLess 55 = .ok (.aload_n 0, 1) := by decide +kernel
theorem dX5_isLess_56 : decode cX5_isLess 56 = .ok (.getfield 17, 3) := by decide +kernel
theorem dX5_isLess_59 : decode cX5_isLess 59 = .ok (.iload_n 3, 1) := by decide +kernel
theorem dX5_isLess_60 : decode cX5_isLess 60 = .ok (.iaload, 1) := by decide +kernel
theorem dX5_isLess_61 : decode cX5_isLess 61 = .ok (.aload_n 0, 1) := by decide +kernel
theorem dX5_isLess_62 : decode cX5_isLess 62 = .ok (.getfield 17, 3) := by decide +kernel
theorem dX5_isLess_65 : decode cX5_isLess 65 = .ok (.iload 4, 2) := by decide +kernel
theorem dX5_isLess_67 : decode cX5_isLess 67 = .ok (.iaload, 1) := by decide +kernel
theorem dX5_isLess_68 : decode cX5_isLess 68 = .ok (.if_icmp .eq 27, 3) := by decide +kernel
theorem dX5_isLess_71 : decode cX5_isLess 71 = .ok (.aload_n 0, 1) := by decide +kernel
theorem dX5_isLess_72 : decode cX5_isLess 72 = .ok (.getfield 17, 3) := by decide +kernel
theorem dX5_isLess_75 : decode cX5_isLess 75 = .ok (.iload_n 3, 1) := by decide +kernel
theorem dX5_isLess_76 : decode cX5_isLess 76 = .ok (.iaload, 1) := by decide +kernel
theorem dX5_isLess_77 : decode cX5_isLess 77 = .ok (.aload_n 0, 1) := by decide +kernel
theorem dX5_isLess_78 : decode cX5_isLess 78 = .ok (.getfield 17, 3) := by decide +kernel
theorem dX5_isLess_81 : decode cX5_isLess 81 = .ok (.iload 4, 2) := by decide +kernel
theorem dX5_isLess_83 : decode cX5_isLess 83 = .ok (.iaload, 1) := by decide +kernel
theorem dX5_isLess_84 : decode cX5_isLess 84 = .ok (.if_icmp .ge 7, 3) := by decide +kernel
theorem dX5_isLess_87 : decode cX5_isLess 87 = .ok (.iconst 1, 1) := by decide +kernel
theorem dX5_isLess_88 : decode cX5_isLess 88 = .ok (.goto 17, 3) := by decide +kernel
theorem dX5_isLess_91 : decode cX5_isLess 91 = .ok (.iconst 0, 1) := by decide +kernel
theorem dX5_isLess_92 : decode cX5_isLess 92 = .ok (.goto 13, 3) := by decide +kernel
theorem dX5_isLess_95 : decode cX5_isLess 95 = .ok (.iload_n 1, 1) := by decide +kernel
theorem dX5_isLess_96 : decode cX5_isLess 96 = .ok (.iload_n 2, 1) := by decide +kernel
theorem dX5_isLess_97 : decode cX5_isLess 97 = .ok (.if_icmp .ge 7, 3) := by decide +kernel
theorem dX5_isLess_100 : decode cX5_isLess 100 = .ok (.iconst 1, 1) := by decide +kernel
theorem dX5_isLess_101 : decode cX5_isLess 101 = .ok (.goto 4, 3) := by decide +kernel
theorem dX5_isLess_104 : decode cX5_isLess 104 = .ok (.iconst 0, 1) := by decide +kernel
theorem dX5_isLess_105 : decode cX5_isLess 105 = .ok (.ireturn, 1) := by decide +kernel
theorem dX5_order_0 : decode cX5_order 0 = .ok (.aload_n 0, 1) := by decide +kernel
theorem dX5_order_1 : decode cX5_order 1 = .ok (.iconst 0, 1) := by decide +kernel
theorem dX5_order_2 : decode cX5_order 2 = .ok (.putfield 1, 3) := by decide +kernel
theorem dX5_order_5 : decode cX5_order 5 = .ok (.aload_n 0, 1) := by decide +kernel
theorem dX5_order_6 : decode cX5_order 6 = .ok (.iload_n 1, 1) := by decide +kernel
theorem dX5_order_7 : decode cX5_order 7 = .ok (.iconst 1, 1) := by decide +kernel
theorem dX5_order_8 : decode cX5_order 8 = .ok (.invokevirtual 139, 3) := by decide +kernel
theorem dX5_order_11 : decode cX5_order 11 = .ok (.ifCond .eq 12, 3) := by decide +kernel
theorem dX5_order_14 : decode cX5_order 14 = .ok (.iload_n 2, 1) := by decide +kernel
theorem dX5_order_15 : decode cX5_order 15 = .ok (.ifCond .lt 8, 3) := by decide +kernel
theorem dX5_order_18 : decode cX5_order 18 = .ok (.iload_n 2, 1) := by decide +kernel
theorem dX5_order_19 : decode cX5_order 19 = .ok (.iload_n 1, 1) := by decide +kernel
theorem dX5_order_20 : decode cX5_order 20 = .ok (.if_icmp .lt 6, 3) := by decide +kernel
theorem dX5_order_23 : decode cX5_order 23 = .ok (.bipush (-2), 2) := by decide +kernel
theorem dX5_order_25 : decode cX5_order 25 = .ok (.ireturn, 1) := by decide +kernel
theorem dX5_order_26 : decode cX5_order 26 = .ok (.aload_n 0, 1) := by decide +kernel
theorem dX5_order_27 : decode cX5_order 27 = .ok (.iload_n 1, 1) := by decide +kernel
theorem dX5_order_28 : decode cX5_order 28 = .ok (.invokevirtual 142, 3) := by decide +kernel
theorem dX5_order_31 : decode cX5_order 31 = .ok (.ifCond .ne 6, 3) := by decide +kernel
theorem dX5_order_34 : decode cX5_order 34 = .ok (.bipush (-4), 2) := by decide +kernel
theorem dX5_order_36 : decode cX5_order 36 = .ok (.ireturn, 1) := by decide +kernel
theorem dX5_order_37 : decode cX5_order 37 = .ok (.iconst (-1), 1) := by decide +kernel
theorem dX5_order_38 : decode cX5_order 38 = .ok (.istore_n 3, 1) := by decide +kernel
theorem dX5_order_39 : decode cX5_order 39 = .ok (.iconst 0, 1) := by decide +kernel
theorem dX5_order_40 : decode cX5_order 40 = .ok (.istore 4, 2) := by decide +kernel
theorem dX5_order_42 : decode cX5_order 42 = .ok (.iload 4, 2) := by decide +kernel
theorem dX5_order_44 : decode cX5_order 44 = .ok (.iload_n 1, 1) := by decide +kernel
theorem dX5_order_45 : decode cX5_order 45 = .ok (.if_icmp .ge 68, 3) := by decide +kernel
theorem dX5_order_48 : decode cX5_order 48 = .ok (.iconst 0, 1) := by decide +kernel
theorem dX5_order_49 : decode cX5_order 49 = .ok (.istore 5, 2) := by decide +kernel
theorem dX5_order_51 : decode cX5_order 51 = .ok (.iconst 0, 1) := by decide +kernel
theorem dX5_order_52 : decode cX5_order 52 = .ok (.istore 6, 2) := by decide +kernel
theorem dX5_order_54 : decode cX5_order 54 = .ok (.iload 6, 2) := by decide +kernel
theorem dX5_order_56 : decode cX5_order 56 = .ok (.iload_n 1, 1) := by decide +kernel
theorem dX5_order_57 : decode cX5_order 57 = .ok (.if_icmp .ge 37, 3) := by decide +kernel
theorem dX5_order_60 : decode cX5_order 60 = .ok (.iload 5, 2) := by decide +kernel
theorem dX5_order_62 : decode cX5_order 62 = .ok (.iload 6, 2) := by decide +kernel
theorem dX5_order_64 : decode cX5_order 64 = .ok (.iload 4, 2) := by decide +kernel
theorem dX5_order_66 : decode cX5_order 66 = .ok (.if_icmp .eq 18, 3) := by decide +kernel
theorem dX5_order_69 : decode cX5_order 69 = .ok (.aload_n 0, 1) := by decide +kernel
theorem dX5_order_70 : decode cX5_order 70 = .ok (.iload 6, 2) := by decide +kernel
theorem dX5_order_72 : decode cX5_order 72 = .ok (.iload 4, 2) := by decide +kernel
theorem dX5_order_74 : decode cX5_order 74 = .ok (.invokevirtual 165, 3) := by decide +kernel
theorem dX5_order_77 : decode cX5_order 77 = .ok (.ifCond .eq 7, 3) := by decide +kernel
theorem dX5_order_80 : decode cX5_order 80 = .ok (.iconst 1, 1) := by decide +kernel
theorem dX5_order_81 : decode cX5_order 81 = .ok (.goto 4, 3) := by decide +kernel
theorem dX5_order_84 : decode cX5_order 84 = .ok (.iconst 0, 1) := by decide +kernel
theorem dX5_order_85 : decode cX5_order 85 = .ok (.iadd, 1) := by decide +kernel
theorem dX5_order_86 : decode cX5_order 86 = .ok (.istore 5, 2) := by decide +kernel
theorem dX5_order_88 : decode cX5_order 88 = .ok (.iinc 6 1, 3) := by decide +kernel
theorem dX5_order_91 : decode cX5_order 91 = .ok (.goto (-37), 3) := by decide +kernel
theorem dX5_order_94 : decode cX5_order 94 = .ok (.iload 5, 2) := by decide +kernel
theorem dX5_order_96 : decode cX5_order 96 = .ok (.iload_n 2, 1) := by decide +kernel
theorem dX5_order_97 : decode cX5_order 97 = .ok (.if_icmp .ne 8, 3) := by decide +kernel
theorem dX5_order_100 : decode cX5_order 100 = .ok (.iload 4, 2) := by decide +kernel
theorem dX5_order_102 : decode cX5_order 102 = .ok (.goto 4, 3) := by decide +kernel
theorem dX5_order_105 : decode cX5_order 105 = .ok (.iload_n 3, 1) := by decide +kernel
theorem dX5_order_106 : decode cX5_order 106 = .ok (.istore_n 3, 1) := by decide +kernel
theorem dX5_order_107 : decode cX5_order 107 = .ok (.iinc 4 1, 3) := by decide +kernel
theorem dX5_order_110 : decode cX5_order 110 = .ok (.goto (-68), 3) := by decide +kernel
theorem dX5_order_113 : decode cX5_order 113 = .ok (.iload_n 3, 1) := by decide +kernel
theorem dX5_order_114 : decode cX5_order 114 = .ok (.ireturn, 1) := by decide +kernel
theorem dX5_area_0 : decode cX5_area 0 = .ok (.aload_n 0, 1) := by decide +kernel
theorem dX5_area_1 : decode cX5_area 1 = .ok (.iconst 0, 1) := by decide +kernel
theorem dX5_area_2 : decode cX5_area 2 = .ok (.putfield 1, 3) := by decide +kernel
theorem dX5_area_5 : decode cX5_area 5 = .ok (.aload_n 0, 1) := by decide +kernel
theorem dX5_area_6 : decode cX5_area 6 = .ok (.iload_n 1, 1) := by decide +kernel
theorem dX5_area_7 : decode cX5_area 7 = .ok (.iconst 1, 1) := by decide +kernel
theorem dX5_area_8 : decode cX5_area 8 = .ok (.invokevirtual 139, 3) := by decide +kernel
theorem dX5_area_11 : decode cX5_area 11 = .ok (.ifCond .eq 11, 3) := by decide +kernel
theorem dX5_area_14 : decode cX5_area 14 = .ok (.aload_n 0, 1) := by decide +kernel
theorem dX5_area_15 : decode cX5_area 15 = .ok (.iload_n 1, 1) := by decide +kernel
theorem dX5_area_16 : decode cX5_area 16 = .ok (.invokevirtual 142, 3) := by decide +kernel
theorem dX5_area_19 : decode cX5_area 19 = .ok (.ifCond .ne 5, 3) := by decide +kernel
theorem dX5_area_22 : decode cX5_area 22 = .ok (.lconst 0, 1) := by decide +kernel
theorem dX5_area_23 : decode cX5_area 23 = .ok (.lreturn, 1) := by decide +kernel
theorem dX5_area_24 : decode cX5_area 24 = .ok (.lload_n 2, 1) := by decide +kernel
theorem dX5_area_25 : decode cX5_area 25 = .ok (.lconst 0, 1) := by decide +kernel
theorem dX5_area_26 : decode cX5_area 26 = .ok (.lcmp, 1) := by decide +kernel
theorem dX5_area_27 : decode cX5_area 27 = .ok (.ifCond .ne 10, 3) := by decide +kernel
theorem dX5_area_30 : decode cX5_area 30 = .ok (.aload_n 0, 1) := by decide +kernel
theorem dX5_area_31 : decode cX5_area 31 = .ok (.iconst 1, 1) := by decide +kernel
theorem dX5_area_32 : decode cX5_area 32 = .ok (.invokevirtual 62, 3) := by decide +kernel
theorem dX5_area_35 : decode cX5_area 35 = .ok (.i2l, 1) := by decide +kernel
theorem dX5_area_36 : decode cX5_area 36 = .ok (.lreturn, 1) := by decide +kernel
theorem dX5_area_37 : decode cX5_area 37 = .ok (.lconst 0, 1) := by decide +kernel
theorem dX5_area_38 : decode cX5_area 38 = .ok (.lstore 4, 2) := by decide +kernel
theorem dX5_area_40 : decode cX5_area 40 = .ok (.iconst 0, 1) := by decide +kernel
theorem dX5_area_41 : decode cX5_area 41 = .ok (.istore 6, 2) := by decide +kernel
theorem dX5_area_43 : decode cX5_area 43 = .ok (.iload 6, 2) := by decide +kernel
theorem dX5_area_45 : decode cX5_area 45 = .ok (.iload_n 1, 1) := by decide +kernel
theorem dX5_area_46 : decode cX5_area 46 = .ok (.if_icmp .ge 67, 3) := by decide +kernel
theorem dX5_area_49 : decode cX5_area 49 = .ok (.aload_n 0, 1) := by decide +kernel
theorem dX5_area_50 : decode cX5_area 50 = .ok (.getfield 20, 3) := by decide +kernel
theorem dX5_area_53 : decode cX5_area 53 = .ok (.iload 6, 2) := by decide +kernel
theorem dX5_area_55 : decode cX5_area 55 = .ok (.iaload, 1) := by decide +kernel
theorem dX5_area_56 : decode cX5_area 56 = .ok (.istore 7, 2) := by decide +kernel
theorem dX5_area_58 : decode cX5_area 58 = .ok (.aload_n 0, 1) := by decide +kernel
theorem dX5_area_59 : decode cX5_area 59 = .ok (.iload 6, 2) := by decide +kernel
theorem dX5_area_61 : decode cX5_area 61 = .ok (.iload_n 1, 1) := by decide +kernel
theorem dX5_area_62 : decode cX5_area 62 = .ok (.invokevirtual 145, 3) := by decide +kernel
theorem dX5_area_65 : decode cX5_area 65 = .ok (.istore 8, 2) := by decide +kernel
theorem dX5_area_67 : decode cX5_area 67 = .ok (.lload 4, 2) := by decide +kernel
theorem dX5_area_69 : decode cX5_area 69 = .ok (.aload_n 0, 1) := by decide +kernel
theorem dX5_area_70 : decode cX5_area 70 = .ok (.getfield 13, 3) := by decide +kernel
theorem dX5_area_73 : decode cX5_area 73 = .ok (.iload 7, 2) := by decide +kernel
theorem dX5_area_75 : decode cX5_area 75 = .ok (.iaload, 1) := by decide +kernel
theorem dX5_area_76 : decode cX5_area 76 = .ok (.i2l, 1) := by decide +kernel
theorem dX5_area_77 : decode cX5_area 77 = .ok (.aload_n 0, 1) := by decide +kernel
theorem dX5_area_78 : decode cX5_area 78 = .ok (.getfield 17, 3) := by decide +kernel
theorem dX5_area_81 : decode cX5_area 81 = .ok (.iload 8, 2) := by decide +kernel
theorem dX5_area_83 : decode cX5_area 83 = .ok (.iaload, 1) := by decide +kernel
theorem dX5_area_84 : decode cX5_area 84 = .ok (.i2l, 1) := by decide +kernel
theorem dX5_area_85 : decode cX5_area 85 = .ok (.lmul, 1) := by decide +kernel
theorem dX5_area_86 : decode cX5_area 86 = .ok (.aload_n 0, 1) := by decide +kernel
theorem dX5_area_87 : decode cX5_area 87 = .ok (.getfield 13, 3) := by decide +kernel
theorem dX5_area_90 : decode cX5_area 90 = .ok (.iload 8, 2) := by decide +kernel
theorem dX5_area_92 : decode cX5_area 92 = .ok (.iaload, 1) := by decide +kernel
theorem dX5_area_93 : decode cX5_area 93 = .ok (.i2l, 1) := by decide +kernel
theorem dX5_area_94 : decode cX5_area 94 = .ok (.aload_n 0, 1) := by decide +kernel
theorem dX5_area_95 : decode cX5_area 95 = .ok (.getfield 17, 3) := by decide +kernel
theorem dX5_area_98 : decode cX5_area 98 = .ok (.iload 7, 2) := by decide +kernel
theorem dX5_area_100 : decode cX5_area 100 = .ok (.iaload, 1) := by decide +kernel
theorem dX5_area_101 : decode cX5_area 101 = .ok (.i2l, 1) := by decide +kernel
theorem dX5_area_102 : decode cX5_area 102 = .ok (.lmul, 1) := by decide +kernel
theorem dX5_area_103 : decode cX5_area 103 = .ok (.lsub, 1) := by decide +kernel
theorem dX5_area_104 : decode cX5_area 104 = .ok (.ladd, 1) := by decide +kernel
theorem dX5_area_105 : decode cX5_area 105 = .ok (.lstore 4, 2) := by decide +kernel
theorem dX5_area_107 : decode cX5_area 107 = .ok (.iinc 6 1, 3) := by decide +kernel
theorem dX5_area_110 : decode cX5_area 110 = .ok (.goto (-67), 3) := by decide +kernel
theorem dX5_area_113 : decode cX5_area 113 = .ok (.lload 4, 2) := by decide +kernel
theorem dX5_area_115 : decode cX5_area 115 = .ok (.lload_n 2, 1) := by decide +kernel
theorem dX5_area_116 : decode cX5_area 116 = .ok (.ldiv, 1) := by decide +kernel
theorem dX5_area_117 : decode cX5_area 117 = .ok (.lreturn, 1) := by decide +kernel
theorem dX5_line_0 : decode cX5_line 0 = .ok (.aload_n 0, 1) := by decide +kernel
theorem dX5_line_1 : decode cX5_line 1 = .ok (.iconst 0, 1) := by decide +kernel
theorem dX5_line_2 : decode cX5_line 2 = .ok (.putfield 1, 3) := by decide +kernel
theorem dX5_line_5 : decode cX5_line 5 = .ok (.aload_n 0, 1) := by decide +kernel
theorem dX5_line_6 : decode cX5_line 6 = .ok (.iload_n 1, 1) := by decide +kernel
theorem dX5_line_7 : decode cX5_line 7 = .ok (.invokevirtual 69, 3) := by decide +kernel
theorem dX5_line_10 : decode cX5_line 10 = .ok (.ifCond .eq 11, 3) := by decide +kernel
theorem dX5_line_13 : decode cX5_line 13 = .ok (.aload_n 0, 1) := by decide +kernel
theorem dX5_line_14 : decode cX5_line 14 = .ok (.iload_n 2, 1) := by decide +kernel
theorem dX5_line_15 : decode cX5_line 15 = .ok (.invokevirtual 69, 3) := by decide +kernel
theorem dX5_line_18 : decode cX5_line 18 = .ok (.ifCond .ne 6, 3) := by decide +kernel
theorem dX5_line_21 : decode cX5_line 21 = .ok (.bipush (-2), 2) := by decide +kernel
theorem dX5_line_23 : decode cX5_line 23 = .ok (.ireturn, 1) := by decide +kernel
theorem dX5_line_24 : decode cX5_line 24 = .ok (.aload_n 0, 1) := by decide +kernel
theorem dX5_line_25 : decode cX5_line 25 = .ok (.iload_n 1, 1) := by decide +kernel
theorem dX5_line_26 : decode cX5_line 26 = .ok (.iload_n 2, 1) := by decide +kernel
theorem dX5_line_27 : decode cX5_line 27 = .ok (.invokevirtual 107, 3) := by decide +kernel
theorem dX5_line_30 : decode cX5_line 30 = .ok (.ifCond .eq 6, 3) := by decide +kernel
theorem dX5_line_33 : decode cX5_line 33 = .ok (.bipush (-4), 2) := by decide +kernel
theorem dX5_line_35 : decode cX5_line 35 = .ok (.ireturn, 1) := by decide +kernel
theorem dX5_line_36 : decode cX5_line 36 = .ok (.aload_n 0, 1) := by decide +kernel
theorem dX5_line_37 : decode cX5_line 37 = .ok (.getfield 168, 3) := by decide +kernel
theorem dX5_line_40 : decode cX5_line 40 = .ok (.bipush 12, 2) := by decide +kernel
theorem dX5_line_42 : decode cX5_line 42 = .ok (.if_icmp .ne 6, 3) := by decide +kernel
theorem dX5_line_45 : decode cX5_line 45 = .ok (.bipush (-3), 2) := by decide +kernel
theorem dX5_line_47 : decode cX5_line 47 = .ok (.ireturn, 1) := by decide +kernel
theorem dX5_line_48 : decode cX5_line 48 = .ok (.aload_n 0, 1) := by decide +kernel
theorem dX5_line_49 : decode cX5_line 49 = .ok (.getfield 27, 3) := by decide +kernel
theorem dX5_line_52 : decode cX5_line 52 = .ok (.aload_n 0, 1) := by decide +kernel
theorem dX5_line_53 : decode cX5_line 53 = .ok (.getfield 168, 3) := by decide +kernel
theorem dX5_line_56 : decode cX5_line 56 = .ok (.aload_n 0, 1) := by decide +kernel
theorem dX5_line_57 : decode cX5_line 57 = .ok (.getfield 17, 3) := by decide +kernel
theorem dX5_line_60 : decode cX5_line 60 = .ok (.iload_n 2, 1) := by decide +kernel
theorem dX5_line_61 : decode cX5_line 61 = .ok (.iaload, 1) := by decide +kernel
theorem dX5_line_62 : decode cX5_line 62 = .ok (.aload_n 0, 1) := by decide +kernel
theorem dX5_line_63 : decode cX5_line 63 = .ok (.getfield 17, 3) := by decide +kernel
theorem dX5_line_66 : decode cX5_line 66 = .ok (.iload_n 1, 1) := by decide +kernel
theorem dX5_line_67 : decode cX5_line 67 = .ok (.iaload, 1) := by decide +kernel
theorem dX5_line_68 : decode cX5_line 68 = .ok (.isub, 1) := by decide +kernel
theorem dX5_line_69 : decode cX5_line 69 = .ok (.i2l, 1) := by decide +kernel
theorem dX5_line_70 : decode cX5_line 70 = .ok (.lastore, 1) := by decide +kernel
theorem dX5_line_71 : decode cX5_line 71 = .ok (.aload_n 0, 1) := by decide +kernel
theorem dX5_line_72 : decode cX5_line 72 = .ok (.getfield 31, 3) := by decide +kernel
theorem dX5_line_75 : decode cX5_line 75 = .ok (.aload_n 0, 1) := by decide +kernel
theorem dX5_line_76 : decode cX5_line 76 = .ok (.getfield 168, 3) := by decide +kernel
theorem dX5_line_79 : decode cX5_line 79 = .ok (.aload_n 0, 1) := by decide +kernel
theorem dX5_line_80 : decode cX5_line 80 = .ok (.getfield 13, 3) := by decide +kernel
theorem dX5_line_83 : decode cX5_line 83 = .ok (.iload_n 1, 1) := by decide +kernel
theorem dX5_line_84 : decode cX5_line 84 = .ok (.iaload, 1) := by decide +kernel
theorem dX5_line_85 : decode cX5_line 85 = .ok (.aload_n 0, 1) := by decide +kernel
theorem dX5_line_86 : decode cX5_line 86 = .ok (.getfield 13, 3) := by decide +kernel
theorem dX5_line_89 : decode cX5_line 89 = .ok (.iload_n 2, 1) := by decide +kernel
theorem dX5_line_90 : decode cX5_line 90 = .ok (.iaload, 1) := by decide +kernel
theorem dX5_line_91 : decode cX5_line 91 = .ok (.isub, 1) := by decide +kernel
theorem dX5_line_92 : decode cX5_line 92 = .ok (.i2l, 1) := by decide +kernel
theorem dX5_line_93 : decode cX5_line 93 = .ok (.lastore, 1) := by decide +kernel
theorem dX5_line_94 : decode cX5_line 94 = .ok (.aload_n 0, 1) := by decide +kernel
theorem dX5_line_95 : decode cX5_line 95 = .ok (.getfield 34, 3) := by decide +kernel
theorem dX5_line_98 : decode cX5_line 98 = .ok (.aload_n 0, 1) := by decide +kernel
theorem dX5_line_99 : decode cX5_line 99 = .ok (.getfield 168, 3) := by decide +kernel
theorem dX5_line_102 : decode cX5_line 102 = .ok (.aload_n 0, 1) := by decide +kernel
theorem dX5_line_103 : decode cX5_line 103 = .ok (.getfield 27, 3) := by decide +kernel
theorem dX5_line_106 : decode cX5_line 106 = .ok (.aload_n 0, 1) := by decide +kernel
theorem dX5_line_107 : decode cX5_line 107 = .ok (.getfield 168, 3) := by decide +kernel
theorem dX5_line_110 : decode cX5_line 110 = .ok (.laload, 1) := by decide +kernel
theorem dX5_line_111 : decode cX5_line 111 = .ok (.aload_n 0, 1) := by decide +kernel
theorem dX5_line_112 : decode cX5_line 112 = .ok (.getfield 13, 3) := by decide +kernel
theorem dX5_line_115 : decode cX5_line 115 = .ok (.iload_n 1, 1) := by decide +kernel
theorem dX5_line_116 : decode cX5_line 116 = .ok (.iaload, 1) := by decide +kernel
theorem dX5_line_117 : decode cX5_line 117 = .ok (.i2l, 1) := by decide +kernel
theorem dX5_line_118 : decode cX5_line 118 = .ok (.lmul, 1) := by decide +kernel
theorem dX5_line_119 : decode cX5_line 119 = .ok (.aload_n 0, 1) := by decide +kernel
theorem dX5_line_120 : decode cX5_line 120 = .ok (.getfield 31, 3) := by decide +kernel
theorem dX5_line_123 : decode cX5_line 123 = .ok (.aload_n 0, 1) := by decide +kernel
theorem dX5_line_124 : decode cX5_line 124 = .ok (.getfield 168, 3) := by decide +kernel
theorem dX5_line_127 : decode cX5_line 127 = .ok (.laload, 1) := by decide +kernel
theorem dX5_line_128 : decode cX5_line 128 = .ok (.aload_n 0, 1) := by decide +kernel
theorem dX5_line_129 : decode cX5_line 129 = .ok (.getfield 17, 3) := by decide +kernel
theorem dX5_line_132 : decode cX5_line 132 = .ok (.iload_n 1, 1) := by decide +kernel
theorem dX5_line_133 : decode cX5_line 133 = .ok (.iaload, 1) := by decide +kernel
theorem dX5_line_134 : decode cX5_line 134 = .ok (.i2l, 1) := by decide +kernel
theorem dX5_line_135 : decode cX5_line 135 = .ok (.lmul, 1) := by decide +kernel
theorem dX5_line_136 : decode cX5_line 136 = .ok (.ladd, 1) := by decide +kernel
theorem dX5_line_137 : decode cX5_line 137 = .ok (.lastore, 1) := by decide +kernel
theorem dX5_line_138 : decode cX5_line 138 = .ok (.aload_n 0, 1) := by decide +kernel
theorem dX5_line_139 : decode cX5_line 139 = .ok (.dup, 1) := by decide +kernel
theorem dX5_line_140 : decode cX5_line 140 = .ok (.getfield 168, 3) := by decide +kernel
theorem dX5_line_143 : decode cX5_line 143 = .ok (.iconst 1, 1) := by decide +kernel
theorem dX5_line_144 : decode cX5_line 144 = .ok (.iadd, 1) := by decide +kernel
theorem dX5_line_145 : decode cX5_line 145 = .ok (.putfield 168, 3) := by decide +kernel
theorem dX5_line_148 : decode cX5_line 148 = .ok (.aload_n 0, 1) := by decide +kernel
theorem dX5_line_149 : decode cX5_line 149 = .ok (.getfield 168, 3) := by decide +kernel
theorem dX5_line_152 : decode cX5_line 152 = .ok (.iconst 1, 1) := by decide +kernel
theorem dX5_line_153 : decode cX5_line 153 = .ok (.isub, 1) := by decide +kernel
theorem dX5_line_154 : decode cX5_line 154 = .ok (.ireturn, 1) := by decide +kernel
theorem dX5_both_0 : decode cX5_both 0 = .ok (.aload_n 0, 1) := by decide +kernel
theorem dX5_both_1 : decode cX5_both 1 = .ok (.getfield 27, 3) := by decide +kernel
theorem dX5_both_4 : decode cX5_both 4 = .ok (.iload_n 1, 1) := by decide +kernel
theorem dX5_both_5 : decode cX5_both 5 = .ok (.laload, 1) := by decide +kernel
theorem dX5_both_6 : decode cX5_both 6 = .ok (.aload_n 0, 1) := by decide +kernel
theorem dX5_both_7 : decode cX5_both 7 = .ok (.getfield 31, 3) := by decide +kernel
theorem dX5_both_10 : decode cX5_both 10 = .ok (.iload_n 2, 1) := by decide +kernel
theorem dX5_both_11 : decode cX5_both 11 = .ok (.laload, 1) := by decide +kernel
theorem dX5_both_12 : decode cX5_both 12 = .ok (.lmul, 1) := by decide +kernel
theorem dX5_both_13 : decode cX5_both 13 = .ok (.aload_n 0, 1) := by decide +kernel
theorem dX5_both_14 : decode cX5_both 14 = .ok (.getfield 27, 3) := by decide +kernel
theorem dX5_both_17 : decode cX5_both 17 = .ok (.iload_n 2, 1) := by decide +kernel
theorem dX5_both_18 : decode cX5_both 18 = .ok (.laload, 1) := by decide +kernel
theorem dX5_both_19 : decode cX5_both 19 = .ok (.aload_n 0, 1) := by decide +kernel
theorem dX5_both_20 : decode cX5_both 20 = .ok (.getfield 31, 3) := by decide +kernel
theorem dX5_both_23 : decode cX5_both 23 = .ok (.iload_n 1, 1) := by decide +kernel
theorem dX5_both_24 : decode cX5_both 24 = .ok (.laload, 1) := by decide +kernel
theorem dX5_both_25 : decode cX5_both 25 = .ok (.lmul, 1) := by decide +kernel
theorem dX5_both_26 : decode cX5_both 26 = .ok (.lsub, 1) := by decide +kernel
theorem dX5_both_27 : decode cX5_both 27 = .ok (.lreturn, 1) := by decide +kernel
theorem dX5_isOne_0 : decode cX5_isOne 0 = .ok (.aload_n 0, 1) := by decide +kernel
theorem dX5_isOne_1 : decode cX5_isOne 1 = .ok (.iload_n 1, 1) := by decide +kernel
theorem dX5_isOne_2 : decode cX5_isOne 2 = .ok (.iload_n 2, 1) := by decide +kernel
theorem dX5_isOne_3 : decode cX5_isOne 3 = .ok (.invokevirtual 171, 3) := by decide +kernel
theorem dX5_isOne_6 : decode cX5_isOne 6 = .ok (.lconst 0, 1) := by decide +kernel
theorem dX5_isOne_7 : decode cX5_isOne 7 = .ok (.lcmp, 1) := by decide +kernel
theorem dX5_isOne_8 : decode cX5_isOne 8 = .ok (.ifCond .ne 67, 3) := by decide +kernel
theorem dX5_isOne_11 : decode cX5_isOne 11 = .ok (.aload_n 0, 1) := by decide +kernel
theorem dX5_isOne_12 : decode cX5_isOne 12 = .ok (.getfield 27, 3) := by decide +kernel
theorem dX5_isOne_15 : decode cX5_isOne 15 = .ok (.iload_n 1, 1) := by decide +kernel
theorem dX5_isOne_16 : decode cX5_isOne 16 = .ok (.laload, 1) := by decide +kernel
theorem dX5_isOne_17 : decode cX5_isOne 17 = .ok (.aload_n 0, 1) := by decide +kernel
theorem dX5_isOne_18 : decode cX5_isOne 18 = .ok (.getfield 34, 3) := by decide +kernel
theorem dX5_isOne_21 : decode cX5_isOne 21 = .ok (.iload_n 2, 1) := by decide +kernel
theorem dX5_isOne_22 : decode cX5_isOne 22 = .ok (.laload, 1) := by decide +kernel
theorem dX5_isOne_23 : decode cX5_isOne 23 = .ok (.lmul, 1) := by decide +kernel
theorem dX5_isOne_24 : decode cX5_isOne 24 = .ok (.aload_n 0, 1) := by decide +kernel
theorem dX5_isOne_25 : decode cX5_isOne 25 = .ok (.getfield 27, 3) := by decide +kernel
theorem dX5_isOne_28 : decode cX5_isOne 28 = .ok (.iload_n 2, 1) := by decide +kernel
theorem dX5_isOne_29 : decode cX5_isOne 29 = .ok (.laload, 1) := by decide +kernel
theorem dX5_isOne_30 : decode cX5_isOne 30 = .ok (.aload_n 0, 1) := by decide +kernel
theorem dX5_isOne_31 : decode cX5_isOne 31 = .ok (.getfield 34, 3) := by decide +kernel
theorem dX5_isOne_34 : decode cX5_isOne 34 = .ok (.iload_n 1, 1) := by decide +kernel
theorem dX5_isOne_35 : decode cX5_isOne 35 = .ok (.laload, 1) := by decide +kernel
theorem dX5_isOne_36 : decode cX5_isOne 36 = .ok (.lmul, 1) := by decide +kernel
theorem dX5_isOne_37 : decode cX5_isOne 37 = .ok (.lcmp, 1) := by decide +kernel
theorem dX5_isOne_38 : decode cX5_isOne 38 = .ok (.ifCond .ne 37, 3) := by decide +kernel
theorem dX5_isOne_41 : decode cX5_isOne 41 = .ok (.aload_n 0, 1) := by decide +kernel
theorem dX5_isOne_42 : decode cX5_isOne 42 = .ok (.getfield 31, 3) := by decide +kernel
theorem dX5_isOne_45 : decode cX5_isOne 45 = .ok (.iload_n 1, 1) := by decide +kernel
theorem dX5_isOne_46 : decode cX5_isOne 46 = .ok (.laload, 1) := by decide +kernel
theorem dX5_isOne_47 : decode cX5_isOne 47 = .ok (.aload_n 0, 1) := by decide +kernel
theorem dX5_isOne_48 : decode cX5_isOne 48 = .ok (.getfield 34, 3) := by decide +kernel
theorem dX5_isOne_51 : decode cX5_isOne 51 = .ok (.iload_n 2, 1) := by decide +kernel
theorem dX5_isOne_52 : decode cX5_isOne 52 = .ok (.laload, 1) := by decide +kernel
theorem dX5_isOne_53 : decode cX5_isOne 53 = .ok (.lmul, 1) := by decide +kernel
theorem dX5_isOne_54 : decode cX5_isOne 54 = .ok (.aload_n 0, 1) := by decide +kernel
theorem dX5_isOne_55 : decode cX5_isOne 55 = .ok (.getfield 31, 3) := by decide +kernel
theorem dX5_isOne_58 : decode cX5_isOne 58 = .ok (.iload_n 2, 1) := by decide +kernel
theorem dX5_isOne_59 : decode cX5_isOne 59 = .ok (.laload, 1) := by decide +kernel
theorem dX5_isOne_60 : decode cX5_isOne 60 = .ok (.aload_n 0, 1) := by decide +kernel
theorem dX5_isOne_61 : decode cX5_isOne 61 = .ok (.getfield 34, 3) := by decide +kernel
theorem dX5_isOne_64 : decode cX5_isOne 64 = .ok (.iload_n 1, 1) := by decide +kernel
theorem dX5_isOne_65 : decode cX5_isOne 65 = .ok (.laload, 1) := by decide +kernel
theorem dX5_isOne_66 : decode cX5_isOne 66 = .ok (.lmul, 1) := by decide +kernel
theorem dX5_isOne_67 : decode cX5_isOne 67 = .ok (.lcmp, 1) := by decide +kernel
theorem dX5_isOne_68 : decode cX5_isOne 68 = .ok (.ifCond .ne 7, 3) := by decide +kernel
theorem dX5_isOne_71 : decode cX5_isOne 71 = .ok (.iconst 1, 1) := by decide +kernel
theorem dX5_isOne_72 : decode cX5_isOne 72 = .ok (.goto 4, 3) := by decide +kernel
theorem dX5_isOne_75 : decode cX5_isOne 75 = .ok (.iconst 0, 1) := by decide +kernel
theorem dX5_isOne_76 : decode cX5_isOne 76 = .ok (.ireturn, 1) := by decide +kernel
theorem dX5_isNew_0 : decode cX5_isNew 0 = .ok (.iconst 1, 1) := by decide +kernel
theorem dX5_isNew_1 : decode cX5_isNew 1 = .ok (.istore_n 2, 1) := by decide +kernel
theorem dX5_isNew_2 : decode cX5_isNew 2 = .ok (.iconst 0, 1) := by decide +kernel
theorem dX5_isNew_3 : decode cX5_isNew 3 = .ok (.istore_n 3, 1) := by decide +kernel
theorem dX5_isNew_4 : decode cX5_isNew 4 = .ok (.iload_n 3, 1) := by decide +kernel
theorem dX5_isNew_5 : decode cX5_isNew 5 = .ok (.iload_n 1, 1) := by decide +kernel
theorem dX5_isNew_6 : decode cX5_isNew 6 = .ok (.if_icmp .ge 28, 3) := by decide +kernel
theorem dX5_isNew_9 : decode cX5_isNew 9 = .ok (.iload_n 2, 1) := by decide +kernel
theorem dX5_isNew_10 : decode cX5_isNew 10 = .ok (.ifCond .eq 16, 3) := by decide +kernel
theorem dX5_isNew_13 : decode cX5_isNew 13 = .ok (.aload_n 0, 1) := by decide +kernel
theorem dX5_isNew_14 : decode cX5_isNew 14 = .ok (.iload_n 1, 1) := by decide +kernel
theorem dX5_isNew_15 : decode cX5_isNew 15 = .ok (.iload_n 3, 1) := by decide +kernel
theorem dX5_isNew_16 : decode cX5_isNew 16 = .ok (.invokevirtual 174, 3) := by decide +kernel
theorem dX5_isNew_19 : decode cX5_isNew 19 = .ok (.ifCond .ne 7, 3) := by decide +kernel
theorem dX5_isNew_22 : decode cX5_isNew 22 = .ok (.iconst 1, 1) := by decide +kernel
theorem dX5_isNew_23 : decode cX5_isNew 23 = .ok (.goto 4, 3) := by decide +kernel
theorem dX5_isNew_26 : decode cX5_isNew 26 = .ok (.iconst 0, 1) := by decide +kernel
theorem dX5_isNew_27 : decode cX5_isNew 27 = .ok (.istore_n 2, 1) := by decide +kernel
theorem dX5_isNew_28 : decode cX5_isNew 28 = .ok (.iinc 3 1, 3) := by decide +kernel
theorem dX5_isNew_31 : decode cX5_isNew 31 = .ok (.goto (-27), 3) := by decide +kernel
theorem dX5_isNew_34 : decode cX5_isNew 34 = .ok (.iload_n 2, 1) := by decide +kernel
theorem dX5_isNew_35 : decode cX5_isNew 35 = .ok (.ireturn, 1) := by decide +kernel
theorem dX5_isThrough_0 : decode cX5_isThrough 0 = .ok (.aload_n 0, 1) := by decide +kernel
theorem dX5_isThrough_1 : decode cX5_isThrough 1 = .ok (.getfield 34, 3) := by decide +kernel
theorem dX5_isThrough_4 : decode cX5_isThrough 4 = .ok (.iload_n 1, 1) := by decide +kernel
theorem dX5_isThrough_5 : decode cX5_isThrough 5 = .ok (.laload, 1) := by decide +kernel
theorem dX5_isThrough_6 : decode cX5_isThrough 6 = .ok (.aload_n 0, 1) := by decide +kernel
theorem dX5_isThrough_7 : decode cX5_isThrough 7 = .ok (.getfield 31, 3) := by decide +kernel
theorem dX5_isThrough_10 : decode cX5_isThrough 10 = .ok (.iload_n 2, 1) := by decide +kernel
theorem dX5_isThrough_11 : decode cX5_isThrough 11 = .ok (.laload, 1) := by decide +kernel
theorem dX5_isThrough_12 : decode cX5_isThrough 12 = .ok (.lmul, 1) := by decide +kernel
theorem dX5_isThrough_13 : decode cX5_isThrough 13 = .ok (.aload_n 0, 1) := by decide +kernel
theorem dX5_isThrough_14 : decode cX5_isThrough 14 = .ok (.getfield 34, 3) := by decide +kernel
theorem dX5_isThrough_17 : decode cX5_isThrough 17 = .ok (.iload_n 2, 1) := by decide +kernel
theorem dX5_isThrough_18 : decode cX5_isThrough 18 = .ok (.laload, 1) := by decide +kernel
theorem dX5_isThrough_19 : decode cX5_isThrough 19 = .ok (.aload_n 0, 1) := by decide +kernel
theorem dX5_isThrough_20 : decode cX5_isThrough 20 = .ok (.getfield 31, 3) := by decide +kernel
theorem dX5_isThrough_23 : decode cX5_isThrough 23 = .ok (.iload_n 1, 1) := by decide +kernel
theorem dX5_isThrough_24 : decode cX5_isThrough 24 = .ok (.laload, 1) := by decide +kernel
theorem dX5_isThrough_25 : decode cX5_isThrough 25 = .ok (.lmul, 1) := by decide +kernel
theorem dX5_isThrough_26 : decode cX5_isThrough 26 = .ok (.lsub, 1) := by decide +kernel
theorem dX5_isThrough_27 : decode cX5_isThrough 27 = .ok (.lstore 4, 2) := by decide +kernel
theorem dX5_isThrough_29 : decode cX5_isThrough 29 = .ok (.aload_n 0, 1) := by decide +kernel
theorem dX5_isThrough_30 : decode cX5_isThrough 30 = .ok (.getfield 27, 3) := by decide +kernel
theorem dX5_isThrough_33 : decode cX5_isThrough 33 = .ok (.iload_n 1, 1) := by decide +kernel
theorem dX5_isThrough_34 : decode cX5_isThrough 34 = .ok (.laload, 1) := by decide +kernel
theorem dX5_isThrough_35 : decode cX5_isThrough 35 = .ok (.aload_n 0, 1) := by decide +kernel
theorem dX5_isThrough_36 : decode cX5_isThrough 36 = .ok (.getfield 34, 3) := by decide +kernel
theorem dX5_isThrough_39 : decode cX5_isThrough 39 = .ok (.iload_n 2, 1) := by decide +kernel
theorem dX5_isThrough_40 : decode cX5_isThrough 40 = .ok (.laload, 1) := by decide +kernel
theorem dX5_isThrough_41 : decode cX5_isThrough 41 = .ok (.lmul, 1) := by decide +kernel
theorem dX5_isThrough_42 : decode cX5_isThrough 42 = .ok (.aload_n 0, 1) := by decide +kernel
theorem dX5_isThrough_43 : decode cX5_isThrough 43 = .ok (.getfield 27, 3) := by decide +kernel
theorem dX5_isThrough_46 : decode cX5_isThrough 46 = .ok (.iload_n 2, 1) := by decide +kernel
theorem dX5_isThrough_47 : decode cX5_isThrough 47 = .ok (.laload, 1) := by decide +kernel
theorem dX5_isThrough_48 : decode cX5_isThrough 48 = .ok (.aload_n 0, 1) := by decide +kernel
theorem dX5_isThrough_49 : decode cX5_isThrough 49 = .ok (.getfield 34, 3) := by decide +kernel
theorem dX5_isThrough_52 : decode cX5_isThrough 52 = .ok (.iload_n 1, 1) := by decide +kernel
theorem dX5_isThrough_53 : decode cX5_isThrough 53 = .ok (.laload, 1) := by decide +kernel
theorem dX5_isThrough_54 : decode cX5_isThrough 54 = .ok (.lmul, 1) := by decide +kernel
theorem dX5_isThrough_55 : decode cX5_isThrough 55 = .ok (.lsub, 1) := by decide +kernel
theorem dX5_isThrough_56 : decode cX5_isThrough 56 = .ok (.lstore 6, 2) := by decide +kernel
theorem dX5_isThrough_58 : decode cX5_isThrough 58 = .ok (.aload_n 0, 1) := by decide +kernel
theorem dX5_isThrough_59 : decode cX5_isThrough 59 = .ok (.getfield 27, 3) := by decide +kernel
theorem dX5_isThrough_62 : decode cX5_isThrough 62 = .ok (.iload_n 3, 1) := by decide +kernel
theorem dX5_isThrough_63 : decode cX5_isThrough 63 = .ok (.laload, 1) := by decide +kernel
theorem dX5_isThrough_64 : decode cX5_isThrough 64 = .ok (.lload 4, 2) := by decide +kernel
theorem dX5_isThrough_66 : decode cX5_isThrough 66 = .ok (.lmul, 1) := by decide +kernel
theorem dX5_isThrough_67 : decode cX5_isThrough 67 = .ok (.aload_n 0, 1) := by decide +kernel
theorem dX5_isThrough_68 : decode cX5_isThrough 68 = .ok (.getfield 31, 3) := by decide +kernel
theorem dX5_isThrough_71 : decode cX5_isThrough 71 = .ok (.iload_n 3, 1) := by decide +kernel
theorem dX5_isThrough_72 : decode cX5_isThrough 72 = .ok (.laload, 1) := by decide +kernel
theorem dX5_isThrough_73 : decode cX5_isThrough 73 = .ok (.lload 6, 2) := by decide +kernel
theorem dX5_isThrough_75 : decode cX5_isThrough 75 = .ok (.lmul, 1) := by decide +kernel
theorem dX5_isThrough_76 : decode cX5_isThrough 76 = .ok (.ladd, 1) := by decide +kernel
theorem dX5_isThrough_77 : decode cX5_isThrough 77 = .ok (.aload_n 0, 1) := by decide +kernel
theorem dX5_isThrough_78 : decode cX5_isThrough 78 = .ok (.getfield 34, 3) := by decide +kernel
theorem dX5_isThrough_81 : decode cX5_isThrough 81 = .ok (.iload_n 3, 1) := by decide +kernel
theorem dX5_isThrough_82 : decode cX5_isThrough 82 = .ok (.laload, 1) := by decide +kernel
theorem dX5_isThrough_83 : decode cX5_isThrough 83 = .ok (.aload_n 0, 1) := by decide +kernel
theorem dX5_isThrough_84 : decode cX5_isThrough 84 = .ok (.iload_n 1, 1) := by decide +kernel
theorem dX5_isThrough_85 : decode cX5_isThrough 85 = .ok (.iload_n 2, 1) := by decide +kernel
theorem dX5_isThrough_86 : decode cX5_isThrough 86 = .ok (.invokevirtual 171, 3) := by decide +kernel
theorem dX5_isThrough_89 : decode cX5_isThrough 89 = .ok (.lmul, 1) := by decide +kernel
theorem dX5_isThrough_90 : decode cX5_isThrough 90 = .ok (.lcmp, 1) := by decide +kernel
theorem dX5_isThrough_91 : decode cX5_isThrough 91 = .ok (.ifCond .ne 7, 3) := by decide +kernel
theorem dX5_isThrough_94 : decode cX5_isThrough 94 = .ok (.iconst 1, 1) := by decide +kernel
theorem dX5_isThrough_95 : decode cX5_isThrough 95 = .ok (.goto 4, 3) := by decide +kernel
theorem dX5_isThrough_98 : decode cX5_isThrough 98 = .ok (.iconst 0, 1) := by decide +kernel
theorem dX5_isThrough_99 : decode cX5_isThrough 99 = .ok (.ireturn, 1) := by decide +kernel
theorem dX5_lines_0 : decode cX5_lines 0 = .ok (.aload_n 0, 1) := by decide +kernel
theorem dX5_lines_1 : decode cX5_lines 1 = .ok (.iconst 0, 1) := by decide +kernel
theorem dX5_lines_2 : decode cX5_lines 2 = .ok (.putfield 1, 3) := by decide +kernel
theorem dX5_lines_5 : decode cX5_lines 5 = .ok (.iload_n 1, 1) := by decide +kernel
theorem dX5_lines_6 : decode cX5_lines 6 = .ok (.ifCond .lt 20, 3) := by decide +kernel
theorem dX5_lines_9 : decode cX5_lines 9 = .ok (.iload_n 1, 1) := by decide +kernel
theorem dX5_lines_10 : decode cX5_lines 10 = .ok (.aload_n 0, 1) := by decide +kernel
theorem dX5_lines_11 : decode cX5_lines 11 = .ok (.getfield 168, 3) := by decide +kernel
theorem dX5_lines_14 : decode cX5_lines 14 = .ok (.if_icmp .gt 12, 3) := by decide +kernel
theorem dX5_lines_17 : decode cX5_lines 17 = .ok (.iload_n 2, 1) := by decide +kernel
theorem dX5_lines_18 : decode cX5_lines 18 = .ok (.ifCond .lt 8, 3) := by decide +kernel
theorem dX5_lines_21 : decode cX5_lines 21 = .ok (.iload_n 2, 1) := by decide +kernel
theorem dX5_lines_22 : decode cX5_lines 22 = .ok (.iconst 5, 1) := by decide +kernel
theorem dX5_lines_23 : decode cX5_lines 23 = .ok (.if_icmp .le 6, 3) := by decide +kernel
theorem dX5_lines_26 : decode cX5_lines 26 = .ok (.bipush (-2), 2) := by decide +kernel
theorem dX5_lines_28 : decode cX5_lines 28 = .ok (.ireturn, 1) := by decide +kernel
theorem dX5_lines_29 : decode cX5_lines 29 = .ok (.iconst 0, 1) := by decide +kernel
theorem dX5_lines_30 : decode cX5_lines 30 = .ok (.istore_n 3, 1) := by decide +kernel
theorem dX5_lines_31 : decode cX5_lines 31 = .ok (.iconst 0, 1) := by decide +kernel
theorem dX5_lines_32 : decode cX5_lines 32 = .ok (.istore 4, 2) := by decide +kernel
theorem dX5_lines_34 : decode cX5_lines 34 = .ok (.iconst 0, 1) := by decide +kernel
theorem dX5_lines_35 : decode cX5_lines 35 = .ok (.istore 5, 2) := by decide +kernel
theorem dX5_lines_37 : decode cX5_lines 37 = .ok (.iconst 0, 1) := by decide +kernel
theorem dX5_lines_38 : decode cX5_lines 38 = .ok (.istore 6, 2) := by decide +kernel
theorem dX5_lines_40 : decode cX5_lines 40 = .ok (.iconst 0, 1) := by decide +kernel
theorem dX5_lines_41 : decode cX5_lines 41 = .ok (.istore 7, 2) := by decide +kernel
theorem dX5_lines_43 : decode cX5_lines 43 = .ok (.iconst 0, 1) := by decide +kernel
theorem dX5_lines_44 : decode cX5_lines 44 = .ok (.istore 8, 2) := by decide +kernel
theorem dX5_lines_46 : decode cX5_lines 46 = .ok (.iload 8, 2) := by decide +kernel
theorem dX5_lines_48 : decode cX5_lines 48 = .ok (.iload_n 1, 1) := by decide +kernel
theorem dX5_lines_49 : decode cX5_lines 49 = .ok (.if_icmp .ge 212, 3) := by decide +kernel
theorem dX5_lines_52 : decode cX5_lines 52 = .ok (.iload_n 3, 1) := by decide +kernel
theorem dX5_lines_53 : decode cX5_lines 53 = .ok (.aload_n 0, 1) := by decide +kernel
theorem dX5_lines_54 : decode cX5_lines 54 = .ok (.iload 8, 2) := by decide +kernel
theorem dX5_lines_56 : decode cX5_lines 56 = .ok (.invokevirtual 177, 3) := by decide +kernel
theorem dX5_lines_59 : decode cX5_lines 59 = .ok (.ifCond .eq 7, 3) := by decide +kernel
theorem dX5_lines_62 : decode cX5_lines 62 = .ok (.iconst 1, 1) := by decide +kernel
theorem dX5_lines_63 : decode cX5_lines 63 = .ok (.goto 4, 3) := by decide +kernel
theorem dX5_lines_66 : decode cX5_lines 66 = .ok (.iconst 0, 1) := by decide +kernel
theorem dX5_lines_67 : decode cX5_lines 67 = .ok (.iadd, 1) := by decide +kernel
theorem dX5_lines_68 : decode cX5_lines 68 = .ok (.istore_n 3, 1) := by decide +kernel
theorem dX5_lines_69 : decode cX5_lines 69 = .ok (.iload 8, 2) := by decide +kernel
theorem dX5_lines_71 : decode cX5_lines 71 = .ok (.iconst 1, 1) := by decide +kernel
theorem dX5_lines_72 : decode cX5_lines 72 = .ok (.iadd, 1) := by decide +kernel
theorem dX5_lines_73 : decode cX5_lines 73 = .ok (.istore 9, 2) := by decide +kernel
theorem dX5_lines_75 : decode cX5_lines 75 = .ok (.iload 9, 2) := by decide +kernel
theorem dX5_lines_77 : decode cX5_lines 77 = .ok (.iload_n 1, 1) := by decide +kernel
theorem dX5_lines_78 : decode cX5_lines 78 = .ok (.if_icmp .ge 177, 3) := by decide +kernel
theorem dX5_lines_81 : decode cX5_lines 81 = .ok (.aload_n 0, 1) := by decide +kernel
theorem dX5_lines_82 : decode cX5_lines 82 = .ok (.iload 8, 2) := by decide +kernel
theorem dX5_lines_84 : decode cX5_lines 84 = .ok (.invokevirtual 177, 3) := by decide +kernel
theorem dX5_lines_87 : decode cX5_lines 87 = .ok (.ifCond .eq 162, 3) := by decide +kernel
theorem dX5_lines_90 : decode cX5_lines 90 = .ok (.aload_n 0, 1) := by decide +kernel
theorem dX5_lines_91 : decode cX5_lines 91 = .ok (.iload 9, 2) := by decide +kernel
theorem dX5_lines_93 : decode cX5_lines 93 = .ok (.invokevirtual 177, 3) := by decide +kernel
theorem dX5_lines_96 : decode cX5_lines 96 = .ok (.ifCond .eq 153, 3) := by decide +kernel
theorem dX5_lines_99 : decode cX5_lines 99 = .ok (.aload_n 0, 1) := by decide +kernel
theorem dX5_lines_100 : decode cX5_lines 100 = .ok (.iload 8, 2) := by decide +kernel
theorem dX5_lines_102 : decode cX5_lines 102 = .ok (.iload 9, 2) := by decide +kernel
theorem dX5_lines_104 : decode cX5_lines 104 = .ok (.invokevirtual 171, 3) := by decide +kernel
theorem dX5_lines_107 : decode cX5_lines 107 = .ok (.lconst 0, 1) := by decide +kernel
theorem dX5_lines_108 : decode cX5_lines 108 = .ok (.lcmp, 1) := by decide +kernel
theorem dX5_lines_109 : decode cX5_lines 109 = .ok (.ifCond .ne 6, 3) := by decide +kernel
theorem dX5_lines_112 : decode cX5_lines 112 = .ok (.goto 137, 3) := by decide +kernel
theorem dX5_lines_115 : decode cX5_lines 115 = .ok (.iconst 0, 1) := by decide +kernel
theorem dX5_lines_116 : decode cX5_lines 116 = .ok (.istore 10, 2) := by decide +kernel
theorem dX5_lines_118 : decode cX5_lines 118 = .ok (.iconst 0, 1) := by decide +kernel
theorem dX5_lines_119 : decode cX5_lines 119 = .ok (.istore 11, 2) := by decide +kernel
theorem dX5_lines_121 : decode cX5_lines 121 = .ok (.iconst 0, 1) := by decide +kernel
theorem dX5_lines_122 : decode cX5_lines 122 = .ok (.istore 12, 2) := by decide +kernel
theorem dX5_lines_124 : decode cX5_lines 124 = .ok (.iload 12, 2) := by decide +kernel
theorem dX5_lines_126 : decode cX5_lines 126 = .ok (.iload_n 1, 1) := by decide +kernel
theorem dX5_lines_127 : decode cX5_lines 127 = .ok (.if_icmp .ge 82, 3) := by decide +kernel
theorem dX5_lines_130 : decode cX5_lines 130 = .ok (.aload_n 0, 1) := by decide +kernel
theorem dX5_lines_131 : decode cX5_lines 131 = .ok (.iload 12, 2) := by decide +kernel
theorem dX5_lines_133 : decode cX5_lines 133 = .ok (.invokevirtual 177, 3) := by decide +kernel
theorem dX5_lines_136 : decode cX5_lines 136 = .ok (.ifCond .eq 20, 3) := by decide +kernel
theorem dX5_lines_139 : decode cX5_lines 139 = .ok (.aload_n 0, 1) := by decide +kernel
theorem dX5_lines_140 : decode cX5_lines 140 = .ok (.iload 8, 2) := by decide +kernel
theorem dX5_lines_142 : decode cX5_lines 142 = .ok (.iload 9, 2) := by decide +kernel
theorem dX5_lines_144 : decode cX5_lines 144 = .ok (.iload 12, 2) := by decide +kernel
theorem dX5_lines_146 : decode cX5_lines 146 = .ok (.invokevirtual 180, 3) := by decide +kernel
theorem dX5_lines_149 : decode cX5_lines 149 = .ok (.ifCond .eq 7, 3) := by decide +kernel
theorem dX5_lines_152 : decode cX5_lines 152 = .ok (.iconst 1, 1) := by decide +kernel
theorem dX5_lines_153 : decode cX5_lines 153 = .ok (.goto 4, 3) := by decide +kernel
theorem dX5_lines_156 : decode cX5_lines 156 = .ok (.iconst 0, 1) := by decide +kernel
theorem dX5_lines_157 : decode cX5_lines 157 = .ok (.istore 13, 2) := by decide +kernel
theorem dX5_lines_159 : decode cX5_lines 159 = .ok (.iload 10, 2) := by decide +kernel
theorem dX5_lines_161 : decode cX5_lines 161 = .ok (.iload 13, 2) := by decide +kernel
theorem dX5_lines_163 : decode cX5_lines 163 = .ok (.ifCond .eq 21, 3) := by decide +kernel
theorem dX5_lines_166 : decode cX5_lines 166 = .ok (.iload 12, 2) := by decide +kernel
theorem dX5_lines_168 : decode cX5_lines 168 = .ok (.iload 9, 2) := by decide +kernel
theorem dX5_lines_170 : decode cX5_lines 170 = .ok (.if_icmp .ge 14, 3) := by decide +kernel
theorem dX5_lines_173 : decode cX5_lines 173 = .ok (.iload 12, 2) := by decide +kernel
theorem dX5_lines_175 : decode cX5_lines 175 = .ok (.iload 8, 2) := by decide +kernel
theorem dX5_lines_177 : decode cX5_lines 177 = .ok (.if_icmp .eq 7, 3) := by decide +kernel
theorem dX5_lines_180 : decode cX5_lines 180 = .ok (.iconst 1, 1) := by decide +kernel
theorem dX5_lines_181 : decode cX5_lines 181 = .ok (.goto 4, 3) := by decide +kernel
theorem dX5_lines_184 : decode cX5_lines 184 = .ok (.iconst 0, 1) := by decide +kernel
theorem dX5_lines_185 : decode cX5_lines 185 = .ok (.iadd, 1) := by decide +kernel
theorem dX5_lines_186 : decode cX5_lines 186 = .ok (.istore 10, 2) := by decide +kernel
theorem dX5_lines_188 : decode cX5_lines 188 = .ok (.iload 11, 2) := by decide +kernel
theorem dX5_lines_190 : decode cX5_lines 190 = .ok (.iload 13, 2) := by decide +kernel
theorem dX5_lines_192 : decode cX5_lines 192 = .ok (.ifCond .eq 7, 3) := by decide +kernel
theorem dX5_lines_195 : decode cX5_lines 195 = .ok (.iconst 1, 1) := by decide +kernel
theorem dX5_lines_196 : decode cX5_lines 196 = .ok (.goto 4, 3) := by decide +kernel
theorem dX5_lines_199 : decode cX5_lines 199 = .ok (.iconst 0, 1) := by decide +kernel
theorem dX5_lines_200 : decode cX5_lines 200 = .ok (.iadd, 1) := by decide +kernel
theorem dX5_lines_201 : decode cX5_lines 201 = .ok (.istore 11, 2) := by decide +kernel
theorem dX5_lines_203 : decode cX5_lines 203 = .ok (.iinc 12 1, 3) := by decide +kernel
theorem dX5_lines_206 : decode cX5_lines 206 = .ok (.goto (-82), 3) := by decide +kernel
theorem dX5_lines_209 : decode cX5_lines 209 = .ok (.iload 10, 2) := by decide +kernel
theorem dX5_lines_211 : decode cX5_lines 211 = .ok (.ifCond .ne 38, 3) := by decide +kernel
theorem dX5_lines_214 : decode cX5_lines 214 = .ok (.iinc 4 1, 3) := by decide +kernel
theorem dX5_lines_217 : decode cX5_lines 217 = .ok (.iload 5, 2) := by decide +kernel
theorem dX5_lines_219 : decode cX5_lines 219 = .ok (.iload 11, 2) := by decide +kernel
theorem dX5_lines_221 : decode cX5_lines 221 = .ok (.iconst 1, 1) := by decide +kernel
theorem dX5_lines_222 : decode cX5_lines 222 = .ok (.isub, 1) := by decide +kernel
theorem dX5_lines_223 : decode cX5_lines 223 = .ok (.iadd, 1) := by decide +kernel
theorem dX5_lines_224 : decode cX5_lines 224 = .ok (.istore 5, 2) := by decide +kernel
theorem dX5_lines_226 : decode cX5_lines 226 = .ok (.iload 7, 2) := by decide +kernel
theorem dX5_lines_228 : decode cX5_lines 228 = .ok (.iload 11, 2) := by decide +kernel
theorem dX5_lines_230 : decode cX5_lines 230 = .ok (.iadd, 1) := by decide +kernel
theorem dX5_lines_231 : decode cX5_lines 231 = .ok (.istore 7, 2) := by decide +kernel
theorem dX5_lines_233 : decode cX5_lines 233 = .ok (.iload 11, 2) := by decide +kernel
theorem dX5_lines_235 : decode cX5_lines 235 = .ok (.iload 6, 2) := by decide +kernel
theorem dX5_lines_237 : decode cX5_lines 237 = .ok (.if_icmp .le 8, 3) := by decide +kernel
theorem dX5_lines_240 : decode cX5_lines 240 = .ok (.iload 11, 2) := by decide +kernel
theorem dX5_lines_242 : decode cX5_lines 242 = .ok (.goto 5, 3) := by decide +kernel
theorem dX5_lines_245 : decode cX5_lines 245 = .ok (.iload 6, 2) := by decide +kernel
theorem dX5_lines_247 : decode cX5_lines 247 = .ok (.istore 6, 2) := by decide +kernel
theorem dX5_lines_249 : decode cX5_lines 249 = .ok (.iinc 9 1, 3) := by decide +kernel
theorem dX5_lines_252 : decode cX5_lines 252 = .ok (.goto (-177), 3) := by decide +kernel
theorem dX5_lines_255 : decode cX5_lines 255 = .ok (.iinc 8 1, 3) := by decide +kernel
theorem dX5_lines_258 : decode cX5_lines 258 = .ok (.goto (-212), 3) := by decide +kernel
theorem dX5_lines_261 : decode cX5_lines 261 = .ok (.iconst 1, 1) := by decide +kernel
theorem dX5_lines_262 : decode cX5_lines 262 = .ok (.iload_n 3, 1) := by decide +kernel
theorem dX5_lines_263 : decode cX5_lines 263 = .ok (.iadd, 1) := by decide +kernel
theorem dX5_lines_264 : decode cX5_lines 264 = .ok (.iload 5, 2) := by decide +kernel
theorem dX5_lines_266 : decode cX5_lines 266 = .ok (.iadd, 1) := by decide +kernel
theorem dX5_lines_267 : decode cX5_lines 267 = .ok (.istore 8, 2) := by decide +kernel
theorem dX5_lines_269 : decode cX5_lines 269 = .ok (.iload_n 2, 1) := by decide +kernel
theorem dX5_lines_270 : decode cX5_lines 270 = .ok (.tableswitch 63 0 4 #[34, 36, 39, 42, 47], 34) := by decide +kernel
theorem dX5_lines_304 : decode cX5_lines 304 = .ok (.iload_n 3, 1) := by decide +kernel
theorem dX5_lines_305 : decode cX5_lines 305 = .ok (.ireturn, 1) := by decide +kernel
theorem dX5_lines_306 : decode cX5_lines 306 = .ok (.iload 4, 2) := by decide +kernel
theorem dX5_lines_308 : decode cX5_lines 308 = .ok (.ireturn, 1) := by decide +kernel
theorem dX5_lines_309 : decode cX5_lines 309 = .ok (.iload 8, 2) := by decide +kernel
theorem dX5_lines_311 : decode cX5_lines 311 = .ok (.ireturn, 1) := by decide +kernel
theorem dX5_lines_312 : decode cX5_lines 312 = .ok (.iload_n 3, 1) := by decide +kernel
theorem dX5_lines_313 : decode cX5_lines 313 = .ok (.iload 7, 2) := by decide +kernel
theorem dX5_lines_315 : decode cX5_lines 315 = .ok (.iadd, 1) := by decide +kernel
theorem dX5_lines_316 : decode cX5_lines 316 = .ok (.ireturn, 1) := by decide +kernel
theorem dX5_lines_317 : decode cX5_lines 317 = .ok (.iload 4, 2) := by decide +kernel
theorem dX5_lines_319 : decode cX5_lines 319 = .ok (.ifCond .ne 7, 3) := by decide +kernel
theorem dX5_lines_322 : decode cX5_lines 322 = .ok (.iconst 0, 1) := by decide +kernel
theorem dX5_lines_323 : decode cX5_lines 323 = .ok (.goto 9, 3) := by decide +kernel
theorem dX5_lines_326 : decode cX5_lines 326 = .ok (.iload 8, 2) := by decide +kernel
theorem dX5_lines_328 : decode cX5_lines 328 = .ok (.iconst 2, 1) := by decide +kernel
theorem dX5_lines_329 : decode cX5_lines 329 = .ok (.iload_n 3, 1) := by decide +kernel
theorem dX5_lines_330 : decode cX5_lines 330 = .ok (.imul, 1) := by decide +kernel
theorem dX5_lines_331 : decode cX5_lines 331 = .ok (.isub, 1) := by decide +kernel
theorem dX5_lines_332 : decode cX5_lines 332 = .ok (.ireturn, 1) := by decide +kernel
theorem dX5_lines_333 : decode cX5_lines 333 = .ok (.iload 6, 2) := by decide +kernel
theorem dX5_lines_335 : decode cX5_lines 335 = .ok (.ireturn, 1) := by decide +kernel
theorem dX5_count_0 : decode cX5_count 0 = .ok (.aload_n 0, 1) := by decide +kernel
theorem dX5_count_1 : decode cX5_count 1 = .ok (.iconst 0, 1) := by decide +kernel
theorem dX5_count_2 : decode cX5_count 2 = .ok (.putfield 1, 3) := by decide +kernel
theorem dX5_count_5 : decode cX5_count 5 = .ok (.iload_n 1, 1) := by decide +kernel
theorem dX5_count_6 : decode cX5_count 6 = .ok (.ifCond .ne 10, 3) := by decide +kernel
theorem dX5_count_9 : decode cX5_count 9 = .ok (.aload_n 0, 1) := by decide +kernel
theorem dX5_count_10 : decode cX5_count 10 = .ok (.getfield 51, 3) := by decide +kernel
theorem dX5_count_13 : decode cX5_count 13 = .ok (.goto 49, 3) := by decide +kernel
theorem dX5_count_16 : decode cX5_count 16 = .ok (.iload_n 1, 1) := by decide +kernel
theorem dX5_count_17 : decode cX5_count 17 = .ok (.iconst 1, 1) := by decide +kernel
theorem dX5_count_18 : decode cX5_count 18 = .ok (.if_icmp .ne 10, 3) := by decide +kernel
theorem dX5_count_21 : decode cX5_count 21 = .ok (.aload_n 0, 1) := by decide +kernel
theorem dX5_count_22 : decode cX5_count 22 = .ok (.getfield 66, 3) := by decide +kernel
theorem dX5_count_25 : decode cX5_count 25 = .ok (.goto 37, 3) := by decide +kernel
theorem dX5_count_28 : decode cX5_count 28 = .ok (.iload_n 1, 1) := by decide +kernel
theorem dX5_count_29 : decode cX5_count 29 = .ok (.iconst 2, 1) := by decide +kernel
theorem dX5_count_30 : decode cX5_count 30 = .ok (.if_icmp .ne 10, 3) := by decide +kernel
theorem dX5_count_33 : decode cX5_count 33 = .ok (.aload_n 0, 1) := by decide +kernel
theorem dX5_count_34 : decode cX5_count 34 = .ok (.getfield 168, 3) := by decide +kernel
theorem dX5_count_37 : decode cX5_count 37 = .ok (.goto 25, 3) := by decide +kernel
theorem dX5_count_40 : decode cX5_count 40 = .ok (.iload_n 1, 1) := by decide +kernel
theorem dX5_count_41 : decode cX5_count 41 = .ok (.iconst 3, 1) := by decide +kernel
theorem dX5_count_42 : decode cX5_count 42 = .ok (.if_icmp .ne 18, 3) := by decide +kernel
theorem dX5_count_45 : decode cX5_count 45 = .ok (.aload_n 0, 1) := by decide +kernel
theorem dX5_count_46 : decode cX5_count 46 = .ok (.getfield 23, 3) := by decide +kernel
theorem dX5_count_49 : decode cX5_count 49 = .ok (.ifCond .eq 7, 3) := by decide +kernel
theorem dX5_count_52 : decode cX5_count 52 = .ok (.iconst 1, 1) := by decide +kernel
theorem dX5_count_53 : decode cX5_count 53 = .ok (.goto 9, 3) := by decide +kernel
theorem dX5_count_56 : decode cX5_count 56 = .ok (.iconst 0, 1) := by decide +kernel
theorem dX5_count_57 : decode cX5_count 57 = .ok (.goto 5, 3) := by decide +kernel
theorem dX5_count_60 : decode cX5_count 60 = .ok (.bipush (-2), 2) := by decide +kernel
theorem dX5_count_62 : decode cX5_count 62 = .ok (.ireturn, 1) := by decide +kernel
