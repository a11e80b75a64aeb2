theorem dX4_init_0 : decode cX4_init 0 = .ok (.aload_n 0, 1) := by decide +kernel
theorem dX4_init_1 : decode cX4_init 1 = .ok (.invokespecial 1, 3) := by decide +kernel
theorem dX4_init_4 : decode cX4_init 4 = .ok (.aload_n 0, 1) := by decide +kernel
theorem dX4_init_5 : decode cX4_init 5 = .ok (.new 7, 3) := by decide +kernel
theorem dX4_init_8 : decode cX4_init 8 = .ok (.dup, 1) := by decide +kernel
theorem dX4_init_9 : decode cX4_init 9 = .ok (.invokespecial 9, 3) := by decide +kernel
theorem dX4_init_12 : decode cX4_init 12 = .ok (.putfield 10, 3) := by decide +kernel
theorem dX4_init_15 : decode cX4_init 15 = .ok (.aload_n 0, 1) := by decide +kernel
theorem dX4_init_16 : decode cX4_init 16 = .ok (.new 16, 3) := by decide +kernel
theorem dX4_init_19 : decode cX4_init 19 = .ok (.dup, 1) := by decide +kernel
theorem dX4_init_20 : decode cX4_init 20 = .ok (.aload_n 0, 1) := by decide +kernel
theorem dX4_init_21 : decode cX4_init 21 = .ok (.getfield 10, 3) := by decide +kernel
theorem dX4_init_24 : decode cX4_init 24 = .ok (.invokespecial 18, 3) := by decide +kernel
theorem dX4_init_27 : decode cX4_init 27 = .ok (.putfield 21, 3) := by decide +kernel
theorem dX4_init_30 : decode cX4_init 30 = .ok (.aload_n 0, 1) := by decide +kernel
theorem dX4_init_31 : decode cX4_init 31 = .ok (.new 25, 3) := by decide +kernel
theorem dX4_init_34 : decode cX4_init 34 = .ok (.dup, 1) := by decide +kernel
theorem dX4_init_35 : decode cX4_init 35 = .ok (.aload_n 0, 1) := by decide +kernel
theorem dX4_init_36 : decode cX4_init 36 = .ok (.getfield 10, 3) := by decide +kernel
theorem dX4_init_39 : decode cX4_init 39 = .ok (.invokespecial 27, 3) := by decide +kernel
theorem dX4_init_42 : decode cX4_init 42 = .ok (.putfield 28, 3) := by decide +kernel
theorem dX4_init_45 : decode cX4_init 45 = .ok (.aload_n 0, 1) := by decide +kernel
theorem dX4_init_46 : decode cX4_init 46 = .ok (.new 32, 3) := by decide +kernel
theorem dX4_init_49 : decode cX4_init 49 = .ok (.dup, 1) := by decide +kernel
theorem dX4_init_50 : decode cX4_init 50 = .ok (.invokespecial 34, 3) := by decide +kernel
theorem dX4_init_53 : decode cX4_init 53 = .ok (.putfield 35, 3) := by decide +kernel
theorem dX4_init_56 : decode cX4_init 56 = .ok (.return_, 1) := by decide +kernel
theorem dX4_point_0 : decode cX4_point 0 = .ok (.lload_n 1, 1) := by decide +kernel
theorem dX4_point_1 : decode cX4_point 1 = .ok (.invokestatic 39, 3) := by decide +kernel
theorem dX4_point_4 : decode cX4_point 4 = .ok (.ifCond .eq 18, 3) := by decide +kernel
theorem dX4_point_7 : decode cX4_point 7 = .ok (.lload_n 3, 1) := by decide +kernel
theorem dX4_point_8 : decode cX4_point 8 = .ok (.invokestatic 39, 3) := by decide +kernel
theorem dX4_point_11 : decode cX4_point 11 = .ok (.ifCond .eq 11, 3) := by decide +kernel
theorem dX4_point_14 : decode cX4_point 14 = .ok (.lload 5, 2) := by decide +kernel
theorem dX4_point_16 : decode cX4_point 16 = .ok (.invokestatic 43, 3) := by decide +kernel
theorem dX4_point_19 : decode cX4_point 19 = .ok (.ifCond .ne 6, 3) := by decide +kernel
theorem dX4_point_22 : decode cX4_point 22 = .ok (.bipush (-2), 2) := by decide +kernel
theorem dX4_point_24 : decode cX4_point 24 = .ok (.ireturn, 1) := by decide +kernel
theorem dX4_point_25 : decode cX4_point 25 = .ok (.aload_n 0, 1) := by decide +kernel
theorem dX4_point_26 : decode cX4_point 26 = .ok (.getfield 10, 3) := by decide +kernel
theorem dX4_point_29 : decode cX4_point 29 = .ok (.getfield 46, 3) := by decide +kernel
theorem dX4_point_32 : decode cX4_point 32 = .ok (.bipush 60, 2) := by decide +kernel
theorem dX4_point_34 : decode cX4_point 34 = .ok (.if_icmp .lt 6, 3) := by decide +kernel
theorem dX4_point_37 : decode cX4_point 37 = .ok (.bipush (-3), 2) := by decide +kernel
theorem dX4_point_39 : decode cX4_point 39 = .ok (.ireturn, 1) := by decide +kernel
theorem dX4_point_40 : decode cX4_point 40 = .ok (.bipush 12, 2) := by decide +kernel
theorem dX4_point_42 : decode cX4_point 42 = .ok (.lload 5, 2) := by decide +kernel
theorem dX4_point_44 : decode cX4_point 44 = .ok (.l2i, 1) := by decide +kernel
theorem dX4_point_45 : decode cX4_point 45 = .ok (.idiv, 1) := by decide +kernel
theorem dX4_point_46 : decode cX4_point 46 = .ok (.istore 7, 2) := by decide +kernel
theorem dX4_point_48 : decode cX4_point 48 = .ok (.aload_n 0, 1) := by decide +kernel
theorem dX4_point_49 : decode cX4_point 49 = .ok (.getfield 10, 3) := by decide +kernel
theorem dX4_point_52 : decode cX4_point 52 = .ok (.lload_n 1, 1) := by decide +kernel
theorem dX4_point_53 : decode cX4_point 53 = .ok (.l2i, 1) := by decide +kernel
theorem dX4_point_54 : decode cX4_point 54 = .ok (.iload 7, 2) := by decide +kernel
theorem dX4_point_56 : decode cX4_point 56 = .ok (.imul, 1) := by decide +kernel
theorem dX4_point_57 : decode cX4_point 57 = .ok (.lload_n 3, 1) := by decide +kernel
theorem dX4_point_58 : decode cX4_point 58 = .ok (.l2i, 1) := by decide +kernel
theorem dX4_point_59 : decode cX4_point 59 = .ok (.iload 7, 2) := by decide +kernel
theorem dX4_point_61 : decode cX4_point 61 = .ok (.imul, 1) := by decide +kernel
theorem dX4_point_62 : decode cX4_point 62 = .ok (.invokevirtual 50, 3) := by decide +kernel
theorem dX4_point_65 : decode cX4_point 65 = .ok (.ireturn, 1) := by decide +kernel
theorem dX4_size_0 : decode cX4_size 0 = .ok (.iload_n 1, 1) := by decide +kernel
theorem dX4_size_1 : decode cX4_size 1 = .ok (.bipush 24, 2) := by decide +kernel
theorem dX4_size_3 : decode cX4_size 3 = .ok (.if_icmp .le 6, 3) := by decide +kernel
theorem dX4_size_6 : decode cX4_size 6 = .ok (.bipush (-2), 2) := by decide +kernel
theorem dX4_size_8 : decode cX4_size 8 = .ok (.ireturn, 1) := by decide +kernel
theorem dX4_size_9 : decode cX4_size 9 = .ok (.iload_n 1, 1) := by decide +kernel
theorem dX4_size_10 : decode cX4_size 10 = .ok (.ifCond .ge 13, 3) := by decide +kernel
theorem dX4_size_13 : decode cX4_size 13 = .ok (.new 54, 3) := by decide +kernel
theorem dX4_size_16 : decode cX4_size 16 = .ok (.dup, 1) := by decide +kernel
theorem dX4_size_17 : decode cX4_size 17 = .ok (.ldc 56, 2) := by decide +kernel
theorem dX4_size_19 : decode cX4_size 19 = .ok (.invokespecial 58, 3) := by decide +kernel
theorem dX4_size_22 : decode cX4_size 22 = .ok (.athrow, 1) := by decide +kernel
theorem dX4_size_23 : decode cX4_size 23 = .ok (.aload_n 0, 1) := by decide +kernel
theorem dX4_size_24 : decode cX4_size 24 = .ok (.getfield 28, 3) := by decide +kernel
theorem dX4_size_27 : decode cX4_size 27 = .ok (.iload_n 1, 1) := by decide +kernel
theorem dX4_size_28 : decode cX4_size 28 = .ok (.invokevirtual 61, 3) := by decide +kernel
theorem dX4_size_31 : decode cX4_size 31 = .ok (.ireturn, 1) := by decide +kernel
theorem dX4_of_0 : decode cX4_of 0 = .ok (.iload_n 2, 1) := by decide +kernel
theorem dX4_of_1 : decode cX4_of 1 = .ok (.iconst (-1), 1) := by decide +kernel
theorem dX4_of_2 : decode cX4_of 2 = .ok (.if_icmp .eq 17, 3) := by decide +kernel
theorem dX4_of_5 : decode cX4_of 5 = .ok (.aload_n 0, 1) := by decide +kernel
theorem dX4_of_6 : decode cX4_of 6 = .ok (.getfield 10, 3) := by decide +kernel
theorem dX4_of_9 : decode cX4_of 9 = .ok (.iload_n 2, 1) := by decide +kernel
theorem dX4_of_10 : decode cX4_of 10 = .ok (.invokevirtual 65, 3) := by decide +kernel
theorem dX4_of_13 : decode cX4_of 13 = .ok (.ifCond .ne 6, 3) := by decide +kernel
theorem dX4_of_16 : decode cX4_of 16 = .ok (.bipush (-2), 2) := by decide +kernel
theorem dX4_of_18 : decode cX4_of 18 = .ok (.ireturn, 1) := by decide +kernel
theorem dX4_of_19 : decode cX4_of 19 = .ok (.aload_n 0, 1) := by decide +kernel
theorem dX4_of_20 : decode cX4_of 20 = .ok (.getfield 28, 3) := by decide +kernel
theorem dX4_of_23 : decode cX4_of 23 = .ok (.iload_n 1, 1) := by decide +kernel
theorem dX4_of_24 : decode cX4_of 24 = .ok (.invokevirtual 69, 3) := by decide +kernel
theorem dX4_of_27 : decode cX4_of 27 = .ok (.ifCond .ne 13, 3) := by decide +kernel
theorem dX4_of_30 : decode cX4_of 30 = .ok (.new 72, 3) := by decide +kernel
theorem dX4_of_33 : decode cX4_of 33 = .ok (.dup, 1) := by decide +kernel
theorem dX4_of_34 : decode cX4_of 34 = .ok (.ldc 74, 2) := by decide +kernel
theorem dX4_of_36 : decode cX4_of 36 = .ok (.invokespecial 76, 3) := by decide +kernel
theorem dX4_of_39 : decode cX4_of 39 = .ok (.athrow, 1) := by decide +kernel
theorem dX4_of_40 : decode cX4_of 40 = .ok (.aload_n 0, 1) := by decide +kernel
theorem dX4_of_41 : decode cX4_of 41 = .ok (.getfield 28, 3) := by decide +kernel
theorem dX4_of_44 : decode cX4_of 44 = .ok (.iload_n 1, 1) := by decide +kernel
theorem dX4_of_45 : decode cX4_of 45 = .ok (.iload_n 2, 1) := by decide +kernel
theorem dX4_of_46 : decode cX4_of 46 = .ok (.invokevirtual 77, 3) := by decide +kernel
theorem dX4_of_49 : decode cX4_of 49 = .ok (.ireturn, 1) := by decide +kernel
theorem dX4_at_0 : decode cX4_at 0 = .ok (.aload_n 0, 1) := by decide +kernel
theorem dX4_at_1 : decode cX4_at 1 = .ok (.getfield 28, 3) := by decide +kernel
theorem dX4_at_4 : decode cX4_at 4 = .ok (.iload_n 1, 1) := by decide +kernel
theorem dX4_at_5 : decode cX4_at 5 = .ok (.invokevirtual 69, 3) := by decide +kernel
theorem dX4_at_8 : decode cX4_at 8 = .ok (.ifCond .ne 13, 3) := by decide +kernel
theorem dX4_at_11 : decode cX4_at 11 = .ok (.new 72, 3) := by decide +kernel
theorem dX4_at_14 : decode cX4_at 14 = .ok (.dup, 1) := by decide +kernel
theorem dX4_at_15 : decode cX4_at 15 = .ok (.ldc 74, 2) := by decide +kernel
theorem dX4_at_17 : decode cX4_at 17 = .ok (.invokespecial 76, 3) := by decide +kernel
theorem dX4_at_20 : decode cX4_at 20 = .ok (.athrow, 1) := by decide +kernel
theorem dX4_at_21 : decode cX4_at 21 = .ok (.aload_n 0, 1) := by decide +kernel
theorem dX4_at_22 : decode cX4_at 22 = .ok (.getfield 28, 3) := by decide +kernel
theorem dX4_at_25 : decode cX4_at 25 = .ok (.getfield 80, 3) := by decide +kernel
theorem dX4_at_28 : decode cX4_at 28 = .ok (.iload_n 1, 1) := by decide +kernel
theorem dX4_at_29 : decode cX4_at 29 = .ok (.iaload, 1) := by decide +kernel
theorem dX4_at_30 : decode cX4_at 30 = .ok (.istore_n 3, 1) := by decide +kernel
theorem dX4_at_31 : decode cX4_at 31 = .ok (.iload_n 3, 1) := by decide +kernel
theorem dX4_at_32 : decode cX4_at 32 = .ok (.iconst (-1), 1) := by decide +kernel
theorem dX4_at_33 : decode cX4_at 33 = .ok (.if_icmp .ne 13, 3) := by decide +kernel
theorem dX4_at_36 : decode cX4_at 36 = .ok (.new 84, 3) := by decide +kernel
theorem dX4_at_39 : decode cX4_at 39 = .ok (.dup, 1) := by decide +kernel
theorem dX4_at_40 : decode cX4_at 40 = .ok (.ldc 86, 2) := by decide +kernel
theorem dX4_at_42 : decode cX4_at 42 = .ok (.invokespecial 88, 3) := by decide +kernel
theorem dX4_at_45 : decode cX4_at 45 = .ok (.athrow, 1) := by decide +kernel
theorem dX4_at_46 : decode cX4_at 46 = .ok (.iload_n 2, 1) := by decide +kernel
theorem dX4_at_47 : decode cX4_at 47 = .ok (.ifCond .ne 13, 3) := by decide +kernel
theorem dX4_at_50 : decode cX4_at 50 = .ok (.aload_n 0, 1) := by decide +kernel
theorem dX4_at_51 : decode cX4_at 51 = .ok (.getfield 10, 3) := by decide +kernel
theorem dX4_at_54 : decode cX4_at 54 = .ok (.getfield 89, 3) := by decide +kernel
theorem dX4_at_57 : decode cX4_at 57 = .ok (.iload_n 3, 1) := by decide +kernel
theorem dX4_at_58 : decode cX4_at 58 = .ok (.iaload, 1) := by decide +kernel
theorem dX4_at_59 : decode cX4_at 59 = .ok (.ireturn, 1) := by decide +kernel
theorem dX4_at_60 : decode cX4_at 60 = .ok (.iload_n 2, 1) := by decide +kernel
theorem dX4_at_61 : decode cX4_at 61 = .ok (.iconst 1, 1) := by decide +kernel
theorem dX4_at_62 : decode cX4_at 62 = .ok (.if_icmp .ne 15, 3) := by decide +kernel
theorem dX4_at_65 : decode cX4_at 65 = .ok (.aload_n 0, 1) := by decide +kernel
theorem dX4_at_66 : decode cX4_at 66 = .ok (.getfield 10, 3) := by decide +kernel
theorem dX4_at_69 : decode cX4_at 69 = .ok (.getfield 92, 3) := by decide +kernel
theorem dX4_at_72 : decode cX4_at 72 = .ok (.iload_n 3, 1) := by decide +kernel
theorem dX4_at_73 : decode cX4_at 73 = .ok (.iaload, 1) := by decide +kernel
theorem dX4_at_74 : decode cX4_at 74 = .ok (.goto 4, 3) := by decide +kernel
theorem dX4_at_77 : decode cX4_at 77 = .ok (.iload_n 3, 1) := by decide +kernel
theorem dX4_at_78 : decode cX4_at 78 = .ok (.ireturn, 1) := by decide +kernel
theorem dX4_side_0 : decode cX4_side 0 = .ok (.aload_n 0, 1) := by decide +kernel
theorem dX4_side_1 : decode cX4_side 1 = .ok (.getfield 10, 3) := by decide +kernel
theorem dX4_side_4 : decode cX4_side 4 = .ok (.iload_n 1, 1) := by decide +kernel
theorem dX4_side_5 : decode cX4_side 5 = .ok (.invokevirtual 65, 3) := by decide +kernel
theorem dX4_side_8 : decode cX4_side 8 = .ok (.ifCond .eq 25, 3) := by decide +kernel
theorem dX4_side_11 : decode cX4_side 11 = .ok (.aload_n 0, 1) := by decide +kernel
theorem dX4_side_12 : decode cX4_side 12 = .ok (.getfield 10, 3) := by decide +kernel
theorem dX4_side_15 : decode cX4_side 15 = .ok (.iload_n 2, 1) := by decide +kernel
theorem dX4_side_16 : decode cX4_side 16 = .ok (.invokevirtual 65, 3) := by decide +kernel
theorem dX4_side_19 : decode cX4_side 19 = .ok (.ifCond .eq 14, 3) := by decide +kernel
theorem dX4_side_22 : decode cX4_side 22 = .ok (.aload_n 0, 1) := by decide +kernel
theorem dX4_side_23 : decode cX4_side 23 = .ok (.getfield 10, 3) := by decide +kernel
theorem dX4_side_26 : decode cX4_side 26 = .ok (.iload_n 3, 1) := by decide +kernel
theorem dX4_side_27 : decode cX4_side 27 = .ok (.invokevirtual 65, 3) := by decide +kernel
theorem dX4_side_30 : decode cX4_side 30 = .ok (.ifCond .ne 6, 3) := by decide +kernel
theorem dX4_side_33 : decode cX4_side 33 = .ok (.bipush (-2), 2) := by decide +kernel
theorem dX4_side_35 : decode cX4_side 35 = .ok (.ireturn, 1) := by decide +kernel
theorem dX4_side_36 : decode cX4_side 36 = .ok (.aload_n 0, 1) := by decide +kernel
theorem dX4_side_37 : decode cX4_side 37 = .ok (.getfield 10, 3) := by decide +kernel
theorem dX4_side_40 : decode cX4_side 40 = .ok (.iload_n 1, 1) := by decide +kernel
theorem dX4_side_41 : decode cX4_side 41 = .ok (.iload_n 2, 1) := by decide +kernel
theorem dX4_side_42 : decode cX4_side 42 = .ok (.invokevirtual 95, 3) := by decide +kernel
theorem dX4_side_45 : decode cX4_side 45 = .ok (.ifCond .eq 6, 3) := by decide +kernel
theorem dX4_side_48 : decode cX4_side 48 = .ok (.bipush (-4), 2) := by decide +kernel
theorem dX4_side_50 : decode cX4_side 50 = .ok (.ireturn, 1) := by decide +kernel
theorem dX4_side_51 : decode cX4_side 51 = .ok (.aload_n 0, 1) := by decide +kernel
theorem dX4_side_52 : decode cX4_side 52 = .ok (.getfield 21, 3) := by decide +kernel
theorem dX4_side_55 : decode cX4_side 55 = .ok (.getfield 99, 3) := by decide +kernel
theorem dX4_side_58 : decode cX4_side 58 = .ok (.ifCond .eq 16, 3) := by decide +kernel
theorem dX4_side_61 : decode cX4_side 61 = .ok (.aload_n 0, 1) := by decide +kernel
theorem dX4_side_62 : decode cX4_side 62 = .ok (.getfield 21, 3) := by decide +kernel
theorem dX4_side_65 : decode cX4_side 65 = .ok (.iload_n 1, 1) := by decide +kernel
theorem dX4_side_66 : decode cX4_side 66 = .ok (.iload_n 2, 1) := by decide +kernel
theorem dX4_side_67 : decode cX4_side 67 = .ok (.iload_n 3, 1) := by decide +kernel
theorem dX4_side_68 : decode cX4_side 68 = .ok (.invokevirtual 103, 3) := by decide +kernel
theorem dX4_side_71 : decode cX4_side 71 = .ok (.goto 4, 3) := by decide +kernel
theorem dX4_side_74 : decode cX4_side 74 = .ok (.iconst 0, 1) := by decide +kernel
theorem dX4_side_75 : decode cX4_side 75 = .ok (.istore 4, 2) := by decide +kernel
theorem dX4_side_77 : decode cX4_side 77 = .ok (.iload 4, 2) := by decide +kernel
theorem dX4_side_79 : decode cX4_side 79 = .ok (.ifCond .eq 8, 3) := by decide +kernel
theorem dX4_side_82 : decode cX4_side 82 = .ok (.iload 4, 2) := by decide +kernel
theorem dX4_side_84 : decode cX4_side 84 = .ok (.goto 13, 3) := by decide +kernel
theorem dX4_side_87 : decode cX4_side 87 = .ok (.aload_n 0, 1) := by decide +kernel
theorem dX4_side_88 : decode cX4_side 88 = .ok (.getfield 10, 3) := by decide +kernel
theorem dX4_side_91 : decode cX4_side 91 = .ok (.iload_n 1, 1) := by decide +kernel
theorem dX4_side_92 : decode cX4_side 92 = .ok (.iload_n 2, 1) := by decide +kernel
theorem dX4_side_93 : decode cX4_side 93 = .ok (.iload_n 3, 1) := by decide +kernel
theorem dX4_side_94 : decode cX4_side 94 = .ok (.invokevirtual 107, 3) := by decide +kernel
theorem dX4_side_97 : decode cX4_side 97 = .ok (.istore 5, 2) := by decide +kernel
theorem dX4_side_99 : decode cX4_side 99 = .ok (.aload_n 0, 1) := by decide +kernel
theorem dX4_side_100 : decode cX4_side 100 = .ok (.getfield 21, 3) := by decide +kernel
theorem dX4_side_103 : decode cX4_side 103 = .ok (.iload 4, 2) := by decide +kernel
theorem dX4_side_105 : decode cX4_side 105 = .ok (.ifCond .eq 7, 3) := by decide +kernel
theorem dX4_side_108 : decode cX4_side 108 = .ok (.iconst 1, 1) := by decide +kernel
theorem dX4_side_109 : decode cX4_side 109 = .ok (.goto 4, 3) := by decide +kernel
theorem dX4_side_112 : decode cX4_side 112 = .ok (.iconst 0, 1) := by decide +kernel
theorem dX4_side_113 : decode cX4_side 113 = .ok (.iload 5, 2) := by decide +kernel
theorem dX4_side_115 : decode cX4_side 115 = .ok (.invokevirtual 110, 3) := by decide +kernel
theorem dX4_side_118 : decode cX4_side 118 = .ok (.iload 5, 2) := by decide +kernel
theorem dX4_side_120 : decode cX4_side 120 = .ok (.ireturn, 1) := by decide +kernel
theorem dX4_circle_0 : decode cX4_circle 0 = .ok (.aload_n 0, 1) := by decide +kernel
theorem dX4_circle_1 : decode cX4_circle 1 = .ok (.getfield 10, 3) := by decide +kernel
theorem dX4_circle_4 : decode cX4_circle 4 = .ok (.iload_n 1, 1) := by decide +kernel
theorem dX4_circle_5 : decode cX4_circle 5 = .ok (.iload_n 2, 1) := by decide +kernel
theorem dX4_circle_6 : decode cX4_circle 6 = .ok (.iload_n 3, 1) := by decide +kernel
theorem dX4_circle_7 : decode cX4_circle 7 = .ok (.iload 4, 2) := by decide +kernel
theorem dX4_circle_9 : decode cX4_circle 9 = .ok (.invokevirtual 114, 3) := by decide +kernel
theorem dX4_circle_12 : decode cX4_circle 12 = .ok (.ifCond .ne 6, 3) := by decide +kernel
theorem dX4_circle_15 : decode cX4_circle 15 = .ok (.bipush (-2), 2) := by decide +kernel
theorem dX4_circle_17 : decode cX4_circle 17 = .ok (.ireturn, 1) := by decide +kernel
theorem dX4_circle_18 : decode cX4_circle 18 = .ok (.aload_n 0, 1) := by decide +kernel
theorem dX4_circle_19 : decode cX4_circle 19 = .ok (.getfield 10, 3) := by decide +kernel
theorem dX4_circle_22 : decode cX4_circle 22 = .ok (.iload_n 1, 1) := by decide +kernel
theorem dX4_circle_23 : decode cX4_circle 23 = .ok (.iload_n 2, 1) := by decide +kernel
theorem dX4_circle_24 : decode cX4_circle 24 = .ok (.iload_n 3, 1) := by decide +kernel
theorem dX4_circle_25 : decode cX4_circle 25 = .ok (.invokevirtual 107, 3) := by decide +kernel
theorem dX4_circle_28 : decode cX4_circle 28 = .ok (.istore 5, 2) := by decide +kernel
theorem dX4_circle_30 : decode cX4_circle 30 = .ok (.iload 5, 2) := by decide +kernel
theorem dX4_circle_32 : decode cX4_circle 32 = .ok (.ifCond .ne 6, 3) := by decide +kernel
theorem dX4_circle_35 : decode cX4_circle 35 = .ok (.bipush (-4), 2) := by decide +kernel
theorem dX4_circle_37 : decode cX4_circle 37 = .ok (.ireturn, 1) := by decide +kernel
theorem dX4_circle_38 : decode cX4_circle 38 = .ok (.aload_n 0, 1) := by decide +kernel
theorem dX4_circle_39 : decode cX4_circle 39 = .ok (.getfield 21, 3) := by decide +kernel
theorem dX4_circle_42 : decode cX4_circle 42 = .ok (.getfield 99, 3) := by decide +kernel
theorem dX4_circle_45 : decode cX4_circle 45 = .ok (.ifCond .eq 18, 3) := by decide +kernel
theorem dX4_circle_48 : decode cX4_circle 48 = .ok (.aload_n 0, 1) := by decide +kernel
theorem dX4_circle_49 : decode cX4_circle 49 = .ok (.getfield 21, 3) := by decide +kernel
theorem dX4_circle_52 : decode cX4_circle 52 = .ok (.iload_n 1, 1) := by decide +kernel
theorem dX4_circle_53 : decode cX4_circle 53 = .ok (.iload_n 2, 1) := by decide +kernel
theorem dX4_circle_54 : decode cX4_circle 54 = .ok (.iload_n 3, 1) := by decide +kernel
theorem dX4_circle_55 : decode cX4_circle 55 = .ok (.iload 4, 2) := by decide +kernel
theorem dX4_circle_57 : decode cX4_circle 57 = .ok (.invokevirtual 118, 3) := by decide +kernel
theorem dX4_circle_60 : decode cX4_circle 60 = .ok (.goto 4, 3) := by decide +kernel
theorem dX4_circle_63 : decode cX4_circle 63 = .ok (.iconst 0, 1) := by decide +kernel
theorem dX4_circle_64 : decode cX4_circle 64 = .ok (.istore 6, 2) := by decide +kernel
theorem dX4_circle_66 : decode cX4_circle 66 = .ok (.iload 5, 2) := by decide +kernel
theorem dX4_circle_68 : decode cX4_circle 68 = .ok (.iload 6, 2) := by decide +kernel
theorem dX4_circle_70 : decode cX4_circle 70 = .ok (.ifCond .eq 8, 3) := by decide +kernel
theorem dX4_circle_73 : decode cX4_circle 73 = .ok (.iload 6, 2) := by decide +kernel
theorem dX4_circle_75 : decode cX4_circle 75 = .ok (.goto 15, 3) := by decide +kernel
theorem dX4_circle_78 : decode cX4_circle 78 = .ok (.aload_n 0, 1) := by decide +kernel
theorem dX4_circle_79 : decode cX4_circle 79 = .ok (.getfield 10, 3) := by decide +kernel
theorem dX4_circle_82 : decode cX4_circle 82 = .ok (.iload_n 1, 1) := by decide +kernel
theorem dX4_circle_83 : decode cX4_circle 83 = .ok (.iload_n 2, 1) := by decide +kernel
theorem dX4_circle_84 : decode cX4_circle 84 = .ok (.iload_n 3, 1) := by decide +kernel
theorem dX4_circle_85 : decode cX4_circle 85 = .ok (.iload 4, 2) := by decide +kernel
theorem dX4_circle_87 : decode cX4_circle 87 = .ok (.invokevirtual 122, 3) := by decide +kernel
theorem dX4_circle_90 : decode cX4_circle 90 = .ok (.imul, 1) := by decide +kernel
theorem dX4_circle_91 : decode cX4_circle 91 = .ok (.istore 7, 2) := by decide +kernel
theorem dX4_circle_93 : decode cX4_circle 93 = .ok (.aload_n 0, 1) := by decide +kernel
theorem dX4_circle_94 : decode cX4_circle 94 = .ok (.getfield 21, 3) := by decide +kernel
theorem dX4_circle_97 : decode cX4_circle 97 = .ok (.iload 6, 2) := by decide +kernel
theorem dX4_circle_99 : decode cX4_circle 99 = .ok (.ifCond .eq 7, 3) := by decide +kernel
theorem dX4_circle_102 : decode cX4_circle 102 = .ok (.iconst 1, 1) := by decide +kernel
theorem dX4_circle_103 : decode cX4_circle 103 = .ok (.goto 4, 3) := by decide +kernel
theorem dX4_circle_106 : decode cX4_circle 106 = .ok (.iconst 0, 1) := by decide +kernel
theorem dX4_circle_107 : decode cX4_circle 107 = .ok (.iload 7, 2) := by decide +kernel
theorem dX4_circle_109 : decode cX4_circle 109 = .ok (.invokevirtual 110, 3) := by decide +kernel
theorem dX4_circle_112 : decode cX4_circle 112 = .ok (.iload 7, 2) := by decide +kernel
theorem dX4_circle_114 : decode cX4_circle 114 = .ok (.ireturn, 1) := by decide +kernel
theorem dX4_filter_0 : decode cX4_filter 0 = .ok (.aload_n 0, 1) := by decide +kernel
theorem dX4_filter_1 : decode cX4_filter 1 = .ok (.getfield 21, 3) := by decide +kernel
theorem dX4_filter_4 : decode cX4_filter 4 = .ok (.getfield 99, 3) := by decide +kernel
theorem dX4_filter_7 : decode cX4_filter 7 = .ok (.istore_n 2, 1) := by decide +kernel
theorem dX4_filter_8 : decode cX4_filter 8 = .ok (.aload_n 0, 1) := by decide +kernel
theorem dX4_filter_9 : decode cX4_filter 9 = .ok (.getfield 21, 3) := by decide +kernel
theorem dX4_filter_12 : decode cX4_filter 12 = .ok (.iload_n 1, 1) := by decide +kernel
theorem dX4_filter_13 : decode cX4_filter 13 = .ok (.putfield 99, 3) := by decide +kernel
theorem dX4_filter_16 : decode cX4_filter 16 = .ok (.iload_n 2, 1) := by decide +kernel
theorem dX4_filter_17 : decode cX4_filter 17 = .ok (.ifCond .eq 7, 3) := by decide +kernel
theorem dX4_filter_20 : decode cX4_filter 20 = .ok (.iconst 1, 1) := by decide +kernel
theorem dX4_filter_21 : decode cX4_filter 21 = .ok (.goto 4, 3) := by decide +kernel
theorem dX4_filter_24 : decode cX4_filter 24 = .ok (.iconst 0, 1) := by decide +kernel
theorem dX4_filter_25 : decode cX4_filter 25 = .ok (.ireturn, 1) := by decide +kernel
theorem dX4_decided_0 : decode cX4_decided 0 = .ok (.iload_n 1, 1) := by decide +kernel
theorem dX4_decided_1 : decode cX4_decided 1 = .ok (.tableswitch 51 0 2 #[27, 35, 43], 27) := by decide +kernel
theorem dX4_decided_28 : decode cX4_decided 28 = .ok (.aload_n 0, 1) := by decide +kernel
theorem dX4_decided_29 : decode cX4_decided 29 = .ok (.getfield 21, 3) := by decide +kernel
theorem dX4_decided_32 : decode cX4_decided 32 = .ok (.getfield 125, 3) := by decide +kernel
theorem dX4_decided_35 : decode cX4_decided 35 = .ok (.ireturn, 1) := by decide +kernel
theorem dX4_decided_36 : decode cX4_decided 36 = .ok (.aload_n 0, 1) := by decide +kernel
theorem dX4_decided_37 : decode cX4_decided 37 = .ok (.getfield 21, 3) := by decide +kernel
theorem dX4_decided_40 : decode cX4_decided 40 = .ok (.getfield 128, 3) := by decide +kernel
theorem dX4_decided_43 : decode cX4_decided 43 = .ok (.ireturn, 1) := by decide +kernel
theorem dX4_decided_44 : decode cX4_decided 44 = .ok (.aload_n 0, 1) := by decide +kernel
theorem dX4_decided_45 : decode cX4_decided 45 = .ok (.getfield 21, 3) := by decide +kernel
theorem dX4_decided_48 : decode cX4_decided 48 = .ok (.getfield 131, 3) := by decide +kernel
theorem dX4_decided_51 : decode cX4_decided 51 = .ok (.ireturn, 1) := by decide +kernel
theorem dX4_decided_52 : decode cX4_decided 52 = .ok (.bipush (-2), 2) := by decide +kernel
theorem dX4_decided_54 : decode cX4_decided 54 = .ok (.ireturn, 1) := by decide +kernel
theorem dX4_between_0 : decode cX4_between 0 = .ok (.aload_n 0, 1) := by decide +kernel
theorem dX4_between_1 : decode cX4_between 1 = .ok (.getfield 10, 3) := by decide +kernel
theorem dX4_between_4 : decode cX4_between 4 = .ok (.iload_n 1, 1) := by decide +kernel
theorem dX4_between_5 : decode cX4_between 5 = .ok (.invokevirtual 65, 3) := by decide +kernel
theorem dX4_between_8 : decode cX4_between 8 = .ok (.ifCond .eq 25, 3) := by decide +kernel
theorem dX4_between_11 : decode cX4_between 11 = .ok (.aload_n 0, 1) := by decide +kernel
theorem dX4_between_12 : decode cX4_between 12 = .ok (.getfield 10, 3) := by decide +kernel
theorem dX4_between_15 : decode cX4_between 15 = .ok (.iload_n 2, 1) := by decide +kernel
theorem dX4_between_16 : decode cX4_between 16 = .ok (.invokevirtual 65, 3) := by decide +kernel
theorem dX4_between_19 : decode cX4_between 19 = .ok (.ifCond .eq 14, 3) := by decide +kernel
theorem dX4_between_22 : decode cX4_between 22 = .ok (.aload_n 0, 1) := by decide +kernel
theorem dX4_between_23 : decode cX4_between 23 = .ok (.getfield 10, 3) := by decide +kernel
theorem dX4_between_26 : decode cX4_between 26 = .ok (.iload_n 3, 1) := by decide +kernel
theorem dX4_between_27 : decode cX4_between 27 = .ok (.invokevirtual 65, 3) := by decide +kernel
theorem dX4_between_30 : decode cX4_between 30 = .ok (.ifCond .ne 6, 3) := by decide +kernel
theorem dX4_between_33 : decode cX4_between 33 = .ok (.bipush (-2), 2) := by decide +kernel
theorem dX4_between_35 : decode cX4_between 35 = .ok (.ireturn, 1) := by decide +kernel
theorem dX4_between_36 : decode cX4_between 36 = .ok (.aload_n 0, 1) := by decide +kernel
theorem dX4_between_37 : decode cX4_between 37 = .ok (.getfield 10, 3) := by decide +kernel
theorem dX4_between_40 : decode cX4_between 40 = .ok (.iload_n 1, 1) := by decide +kernel
theorem dX4_between_41 : decode cX4_between 41 = .ok (.iload_n 2, 1) := by decide +kernel
theorem dX4_between_42 : decode cX4_between 42 = .ok (.invokevirtual 95, 3) := by decide +kernel
theorem dX4_between_45 : decode cX4_between 45 = .ok (.ifCond .ne 15, 3) := by decide +kernel
theorem dX4_between_48 : decode cX4_between 48 = .ok (.aload_n 0, 1) := by decide +kernel
theorem dX4_between_49 : decode cX4_between 49 = .ok (.getfield 10, 3) := by decide +kernel
theorem dX4_between_52 : decode cX4_between 52 = .ok (.iload_n 2, 1) := by decide +kernel
theorem dX4_between_53 : decode cX4_between 53 = .ok (.iload_n 3, 1) := by decide +kernel
theorem dX4_between_54 : decode cX4_between 54 = .ok (.invokevirtual 95, 3) := by decide +kernel
theorem dX4_between_57 : decode cX4_between 57 = .ok (.ifCond .eq 5, 3) := by decide +kernel
theorem dX4_between_60 : decode cX4_between 60 = .ok (.iconst 2, 1) := by decide +kernel
theorem dX4_between_61 : decode cX4_between 61 = .ok (.ireturn, 1) := by decide +kernel
theorem dX4_between_62 : decode cX4_between 62 = .ok (.aload_n 0, 1) := by decide +kernel
theorem dX4_between_63 : decode cX4_between 63 = .ok (.getfield 10, 3) := by decide +kernel
theorem dX4_between_66 : decode cX4_between 66 = .ok (.iload_n 1, 1) := by decide +kernel
theorem dX4_between_67 : decode cX4_between 67 = .ok (.iload_n 3, 1) := by decide +kernel
theorem dX4_between_68 : decode cX4_between 68 = .ok (.iload_n 2, 1) := by decide +kernel
theorem dX4_between_69 : decode cX4_between 69 = .ok (.invokevirtual 134, 3) := by decide +kernel
theorem dX4_between_72 : decode cX4_between 72 = .ok (.ifCond .eq 7, 3) := by decide +kernel
theorem dX4_between_75 : decode cX4_between 75 = .ok (.iconst 1, 1) := by decide +kernel
theorem dX4_between_76 : decode cX4_between 76 = .ok (.goto 4, 3) := by decide +kernel
theorem dX4_between_79 : decode cX4_between 79 = .ok (.iconst 0, 1) := by decide +kernel
theorem dX4_between_80 : decode cX4_between 80 = .ok (.ireturn, 1) := by decide +kernel
theorem dX4_inside_0 : decode cX4_inside 0 = .ok (.aload_n 0, 1) := by decide +kernel
theorem dX4_inside_1 : decode cX4_inside 1 = .ok (.getfield 10, 3) := by decide +kernel
theorem dX4_inside_4 : decode cX4_inside 4 = .ok (.iload_n 1, 1) := by decide +kernel
theorem dX4_inside_5 : decode cX4_inside 5 = .ok (.iload_n 2, 1) := by decide +kernel
theorem dX4_inside_6 : decode cX4_inside 6 = .ok (.iload_n 3, 1) := by decide +kernel
theorem dX4_inside_7 : decode cX4_inside 7 = .ok (.iload 4, 2) := by decide +kernel
theorem dX4_inside_9 : decode cX4_inside 9 = .ok (.invokevirtual 114, 3) := by decide +kernel
theorem dX4_inside_12 : decode cX4_inside 12 = .ok (.ifCond .ne 6, 3) := by decide +kernel
theorem dX4_inside_15 : decode cX4_inside 15 = .ok (.bipush (-2), 2) := by decide +kernel
theorem dX4_inside_17 : decode cX4_inside 17 = .ok (.ireturn, 1) := by decide +kernel
theorem dX4_inside_18 : decode cX4_inside 18 = .ok (.aload_n 0, 1) := by decide +kernel
theorem dX4_inside_19 : decode cX4_inside 19 = .ok (.getfield 10, 3) := by decide +kernel
theorem dX4_inside_22 : decode cX4_inside 22 = .ok (.iload_n 1, 1) := by decide +kernel
theorem dX4_inside_23 : decode cX4_inside 23 = .ok (.iload_n 2, 1) := by decide +kernel
theorem dX4_inside_24 : decode cX4_inside 24 = .ok (.invokevirtual 95, 3) := by decide +kernel
theorem dX4_inside_27 : decode cX4_inside 27 = .ok (.ifCond .ne 15, 3) := by decide +kernel
theorem dX4_inside_30 : decode cX4_inside 30 = .ok (.aload_n 0, 1) := by decide +kernel
theorem dX4_inside_31 : decode cX4_inside 31 = .ok (.getfield 10, 3) := by decide +kernel
theorem dX4_inside_34 : decode cX4_inside 34 = .ok (.iload_n 1, 1) := by decide +kernel
theorem dX4_inside_35 : decode cX4_inside 35 = .ok (.iload_n 3, 1) := by decide +kernel
theorem dX4_inside_36 : decode cX4_inside 36 = .ok (.invokevirtual 95, 3) := by decide +kernel
theorem dX4_inside_39 : decode cX4_inside 39 = .ok (.ifCond .eq 6, 3) := by decide +kernel
theorem dX4_inside_42 : decode cX4_inside 42 = .ok (.bipush (-4), 2) := by decide +kernel
theorem dX4_inside_44 : decode cX4_inside 44 = .ok (.ireturn, 1) := by decide +kernel
theorem dX4_inside_45 : decode cX4_inside 45 = .ok (.aload_n 0, 1) := by decide +kernel
theorem dX4_inside_46 : decode cX4_inside 46 = .ok (.getfield 10, 3) := by decide +kernel
theorem dX4_inside_49 : decode cX4_inside 49 = .ok (.iload_n 1, 1) := by decide +kernel
theorem dX4_inside_50 : decode cX4_inside 50 = .ok (.iload 4, 2) := by decide +kernel
theorem dX4_inside_52 : decode cX4_inside 52 = .ok (.invokevirtual 95, 3) := by decide +kernel
theorem dX4_inside_55 : decode cX4_inside 55 = .ok (.ifCond .ne 31, 3) := by decide +kernel
theorem dX4_inside_58 : decode cX4_inside 58 = .ok (.aload_n 0, 1) := by decide +kernel
theorem dX4_inside_59 : decode cX4_inside 59 = .ok (.getfield 10, 3) := by decide +kernel
theorem dX4_inside_62 : decode cX4_inside 62 = .ok (.iload_n 1, 1) := by decide +kernel
theorem dX4_inside_63 : decode cX4_inside 63 = .ok (.iload_n 2, 1) := by decide +kernel
theorem dX4_inside_64 : decode cX4_inside 64 = .ok (.iload 4, 2) := by decide +kernel
theorem dX4_inside_66 : decode cX4_inside 66 = .ok (.invokevirtual 138, 3) := by decide +kernel
theorem dX4_inside_69 : decode cX4_inside 69 = .ok (.ifCond .ne 17, 3) := by decide +kernel
theorem dX4_inside_72 : decode cX4_inside 72 = .ok (.aload_n 0, 1) := by decide +kernel
theorem dX4_inside_73 : decode cX4_inside 73 = .ok (.getfield 10, 3) := by decide +kernel
theorem dX4_inside_76 : decode cX4_inside 76 = .ok (.iload_n 1, 1) := by decide +kernel
theorem dX4_inside_77 : decode cX4_inside 77 = .ok (.iload_n 3, 1) := by decide +kernel
theorem dX4_inside_78 : decode cX4_inside 78 = .ok (.iload 4, 2) := by decide +kernel
theorem dX4_inside_80 : decode cX4_inside 80 = .ok (.invokevirtual 138, 3) := by decide +kernel
theorem dX4_inside_83 : decode cX4_inside 83 = .ok (.ifCond .eq 5, 3) := by decide +kernel
theorem dX4_inside_86 : decode cX4_inside 86 = .ok (.iconst 2, 1) := by decide +kernel
theorem dX4_inside_87 : decode cX4_inside 87 = .ok (.ireturn, 1) := by decide +kernel
theorem dX4_inside_88 : decode cX4_inside 88 = .ok (.aload_n 0, 1) := by decide +kernel
theorem dX4_inside_89 : decode cX4_inside 89 = .ok (.getfield 10, 3) := by decide +kernel
theorem dX4_inside_92 : decode cX4_inside 92 = .ok (.iload_n 1, 1) := by decide +kernel
theorem dX4_inside_93 : decode cX4_inside 93 = .ok (.iload_n 2, 1) := by decide +kernel
theorem dX4_inside_94 : decode cX4_inside 94 = .ok (.iload_n 3, 1) := by decide +kernel
theorem dX4_inside_95 : decode cX4_inside 95 = .ok (.iload 4, 2) := by decide +kernel
theorem dX4_inside_97 : decode cX4_inside 97 = .ok (.invokevirtual 141, 3) := by decide +kernel
theorem dX4_inside_100 : decode cX4_inside 100 = .ok (.ifCond .eq 7, 3) := by decide +kernel
theorem dX4_inside_103 : decode cX4_inside 103 = .ok (.iconst 1, 1) := by decide +kernel
theorem dX4_inside_104 : decode cX4_inside 104 = .ok (.goto 4, 3) := by decide +kernel
theorem dX4_inside_107 : decode cX4_inside 107 = .ok (.iconst 0, 1) := by decide +kernel
theorem dX4_inside_108 : decode cX4_inside 108 = .ok (.ireturn, 1) := by decide +kernel
theorem dX4_cross_0 : decode cX4_cross 0 = .ok (.aload_n 0, 1) := by decide +kernel
theorem dX4_cross_1 : decode cX4_cross 1 = .ok (.getfield 10, 3) := by decide +kernel
theorem dX4_cross_4 : decode cX4_cross 4 = .ok (.iload_n 1, 1) := by decide +kernel
theorem dX4_cross_5 : decode cX4_cross 5 = .ok (.iload_n 2, 1) := by decide +kernel
theorem dX4_cross_6 : decode cX4_cross 6 = .ok (.iload_n 3, 1) := by decide +kernel
theorem dX4_cross_7 : decode cX4_cross 7 = .ok (.iload 4, 2) := by decide +kernel
theorem dX4_cross_9 : decode cX4_cross 9 = .ok (.invokevirtual 114, 3) := by decide +kernel
theorem dX4_cross_12 : decode cX4_cross 12 = .ok (.ifCond .ne 6, 3) := by decide +kernel
theorem dX4_cross_15 : decode cX4_cross 15 = .ok (.bipush (-2), 2) := by decide +kernel
theorem dX4_cross_17 : decode cX4_cross 17 = .ok (.ireturn, 1) := by decide +kernel
theorem dX4_cross_18 : decode cX4_cross 18 = .ok (.aload_n 0, 1) := by decide +kernel
theorem dX4_cross_19 : decode cX4_cross 19 = .ok (.getfield 10, 3) := by decide +kernel
theorem dX4_cross_22 : decode cX4_cross 22 = .ok (.iload_n 1, 1) := by decide +kernel
theorem dX4_cross_23 : decode cX4_cross 23 = .ok (.iload_n 2, 1) := by decide +kernel
theorem dX4_cross_24 : decode cX4_cross 24 = .ok (.iload_n 3, 1) := by decide +kernel
theorem dX4_cross_25 : decode cX4_cross 25 = .ok (.iload 4, 2) := by decide +kernel
theorem dX4_cross_27 : decode cX4_cross 27 = .ok (.invokevirtual 144, 3) := by decide +kernel
theorem dX4_cross_30 : decode cX4_cross 30 = .ok (.ifCond .eq 18, 3) := by decide +kernel
theorem dX4_cross_33 : decode cX4_cross 33 = .ok (.aload_n 0, 1) := by decide +kernel
theorem dX4_cross_34 : decode cX4_cross 34 = .ok (.getfield 10, 3) := by decide +kernel
theorem dX4_cross_37 : decode cX4_cross 37 = .ok (.iload_n 1, 1) := by decide +kernel
theorem dX4_cross_38 : decode cX4_cross 38 = .ok (.iload_n 2, 1) := by decide +kernel
theorem dX4_cross_39 : decode cX4_cross 39 = .ok (.iload_n 3, 1) := by decide +kernel
theorem dX4_cross_40 : decode cX4_cross 40 = .ok (.iload 4, 2) := by decide +kernel
theorem dX4_cross_42 : decode cX4_cross 42 = .ok (.invokevirtual 147, 3) := by decide +kernel
theorem dX4_cross_45 : decode cX4_cross 45 = .ok (.goto 15, 3) := by decide +kernel
theorem dX4_cross_48 : decode cX4_cross 48 = .ok (.aload_n 0, 1) := by decide +kernel
theorem dX4_cross_49 : decode cX4_cross 49 = .ok (.getfield 10, 3) := by decide +kernel
theorem dX4_cross_52 : decode cX4_cross 52 = .ok (.iload_n 1, 1) := by decide +kernel
theorem dX4_cross_53 : decode cX4_cross 53 = .ok (.iload_n 2, 1) := by decide +kernel
theorem dX4_cross_54 : decode cX4_cross 54 = .ok (.iload_n 3, 1) := by decide +kernel
theorem dX4_cross_55 : decode cX4_cross 55 = .ok (.iload 4, 2) := by decide +kernel
theorem dX4_cross_57 : decode cX4_cross 57 = .ok (.invokevirtual 150, 3) := by decide +kernel
theorem dX4_cross_60 : decode cX4_cross 60 = .ok (.ireturn, 1) := by decide +kernel
theorem dX4_separated_0 : decode cX4_separated 0 = .ok (.aload_n 0, 1) := by decide +kernel
theorem dX4_separated_1 : decode cX4_separated 1 = .ok (.getfield 10, 3) := by decide +kernel
theorem dX4_separated_4 : decode cX4_separated 4 = .ok (.iload_n 1, 1) := by decide +kernel
theorem dX4_separated_5 : decode cX4_separated 5 = .ok (.iload_n 2, 1) := by decide +kernel
theorem dX4_separated_6 : decode cX4_separated 6 = .ok (.iload_n 3, 1) := by decide +kernel
theorem dX4_separated_7 : decode cX4_separated 7 = .ok (.iload 4, 2) := by decide +kernel
theorem dX4_separated_9 : decode cX4_separated 9 = .ok (.invokevirtual 114, 3) := by decide +kernel
theorem dX4_separated_12 : decode cX4_separated 12 = .ok (.ifCond .ne 6, 3) := by decide +kernel
theorem dX4_separated_15 : decode cX4_separated 15 = .ok (.bipush (-2), 2) := by decide +kernel
theorem dX4_separated_17 : decode cX4_separated 17 = .ok (.ireturn, 1) := by decide +kernel
theorem dX4_separated_18 : decode cX4_separated 18 = .ok (.aload_n 0, 1) := by decide +kernel
theorem dX4_separated_19 : decode cX4_separated 19 = .ok (.getfield 10, 3) := by decide +kernel
theorem dX4_separated_22 : decode cX4_separated 22 = .ok (.iload_n 1, 1) := by decide +kernel
theorem dX4_separated_23 : decode cX4_separated 23 = .ok (.iload_n 2, 1) := by decide +kernel
theorem dX4_separated_24 : decode cX4_separated 24 = .ok (.iload_n 3, 1) := by decide +kernel
theorem dX4_separated_25 : decode cX4_separated 25 = .ok (.iload 4, 2) := by decide +kernel
theorem dX4_separated_27 : decode cX4_separated 27 = .ok (.invokevirtual 153, 3) := by decide +kernel
theorem dX4_separated_30 : decode cX4_separated 30 = .ok (.ifCond .eq 6, 3) := by decide +kernel
theorem dX4_separated_33 : decode cX4_separated 33 = .ok (.bipush (-4), 2) := by decide +kernel
theorem dX4_separated_35 : decode cX4_separated 35 = .ok (.ireturn, 1) := by decide +kernel
theorem dX4_separated_36 : decode cX4_separated 36 = .ok (.aload_n 0, 1) := by decide +kernel
theorem dX4_separated_37 : decode cX4_separated 37 = .ok (.getfield 10, 3) := by decide +kernel
theorem dX4_separated_40 : decode cX4_separated 40 = .ok (.iload_n 1, 1) := by decide +kernel
theorem dX4_separated_41 : decode cX4_separated 41 = .ok (.iload_n 2, 1) := by decide +kernel
theorem dX4_separated_42 : decode cX4_separated 42 = .ok (.iload_n 3, 1) := by decide +kernel
theorem dX4_separated_43 : decode cX4_separated 43 = .ok (.iload 4, 2) := by decide +kernel
theorem dX4_separated_45 : decode cX4_separated 45 = .ok (.invokevirtual 144, 3) := by decide +kernel
theorem dX4_separated_48 : decode cX4_separated 48 = .ok (.ifCond .eq 33, 3) := by decide +kernel
theorem dX4_separated_51 : decode cX4_separated 51 = .ok (.aload_n 0, 1) := by decide +kernel
theorem dX4_separated_52 : decode cX4_separated 52 = .ok (.getfield 10, 3) := by decide +kernel
theorem dX4_separated_55 : decode cX4_separated 55 = .ok (.iload_n 1, 1) := by decide +kernel
theorem dX4_separated_56 : decode cX4_separated 56 = .ok (.iload_n 2, 1) := by decide +kernel
theorem dX4_separated_57 : decode cX4_separated 57 = .ok (.iload_n 3, 1) := by decide +kernel
theorem dX4_separated_58 : decode cX4_separated 58 = .ok (.invokevirtual 134, 3) := by decide +kernel
theorem dX4_separated_61 : decode cX4_separated 61 = .ok (.aload_n 0, 1) := by decide +kernel
theorem dX4_separated_62 : decode cX4_separated 62 = .ok (.getfield 10, 3) := by decide +kernel
theorem dX4_separated_65 : decode cX4_separated 65 = .ok (.iload_n 1, 1) := by decide +kernel
theorem dX4_separated_66 : decode cX4_separated 66 = .ok (.iload_n 2, 1) := by decide +kernel
theorem dX4_separated_67 : decode cX4_separated 67 = .ok (.iload 4, 2) := by decide +kernel
theorem dX4_separated_69 : decode cX4_separated 69 = .ok (.invokevirtual 134, 3) := by decide +kernel
theorem dX4_separated_72 : decode cX4_separated 72 = .ok (.if_icmp .eq 7, 3) := by decide +kernel
theorem dX4_separated_75 : decode cX4_separated 75 = .ok (.iconst 1, 1) := by decide +kernel
theorem dX4_separated_76 : decode cX4_separated 76 = .ok (.goto 4, 3) := by decide +kernel
theorem dX4_separated_79 : decode cX4_separated 79 = .ok (.iconst 0, 1) := by decide +kernel
theorem dX4_separated_80 : decode cX4_separated 80 = .ok (.ireturn, 1) := by decide +kernel
theorem dX4_separated_81 : decode cX4_separated 81 = .ok (.aload_n 0, 1) := by decide +kernel
theorem dX4_separated_82 : decode cX4_separated 82 = .ok (.getfield 10, 3) := by decide +kernel
theorem dX4_separated_85 : decode cX4_separated 85 = .ok (.iload_n 1, 1) := by decide +kernel
theorem dX4_separated_86 : decode cX4_separated 86 = .ok (.iload_n 2, 1) := by decide +kernel
theorem dX4_separated_87 : decode cX4_separated 87 = .ok (.iload_n 3, 1) := by decide +kernel
theorem dX4_separated_88 : decode cX4_separated 88 = .ok (.invokevirtual 107, 3) := by decide +kernel
theorem dX4_separated_91 : decode cX4_separated 91 = .ok (.istore 5, 2) := by decide +kernel
theorem dX4_separated_93 : decode cX4_separated 93 = .ok (.iload 5, 2) := by decide +kernel
theorem dX4_separated_95 : decode cX4_separated 95 = .ok (.ifCond .eq 18, 3) := by decide +kernel
theorem dX4_separated_98 : decode cX4_separated 98 = .ok (.aload_n 0, 1) := by decide +kernel
theorem dX4_separated_99 : decode cX4_separated 99 = .ok (.getfield 10, 3) := by decide +kernel
theorem dX4_separated_102 : decode cX4_separated 102 = .ok (.iload_n 1, 1) := by decide +kernel
theorem dX4_separated_103 : decode cX4_separated 103 = .ok (.iload_n 2, 1) := by decide +kernel
theorem dX4_separated_104 : decode cX4_separated 104 = .ok (.iload_n 3, 1) := by decide +kernel
theorem dX4_separated_105 : decode cX4_separated 105 = .ok (.iload 4, 2) := by decide +kernel
theorem dX4_separated_107 : decode cX4_separated 107 = .ok (.invokevirtual 122, 3) := by decide +kernel
theorem dX4_separated_110 : decode cX4_separated 110 = .ok (.ifCond .eq 6, 3) := by decide +kernel
theorem dX4_separated_113 : decode cX4_separated 113 = .ok (.bipush (-4), 2) := by decide +kernel
theorem dX4_separated_115 : decode cX4_separated 115 = .ok (.ireturn, 1) := by decide +kernel
theorem dX4_separated_116 : decode cX4_separated 116 = .ok (.iload 5, 2) := by decide +kernel
theorem dX4_separated_118 : decode cX4_separated 118 = .ok (.aload_n 0, 1) := by decide +kernel
theorem dX4_separated_119 : decode cX4_separated 119 = .ok (.getfield 10, 3) := by decide +kernel
theorem dX4_separated_122 : decode cX4_separated 122 = .ok (.iload_n 1, 1) := by decide +kernel
theorem dX4_separated_123 : decode cX4_separated 123 = .ok (.iload_n 2, 1) := by decide +kernel
theorem dX4_separated_124 : decode cX4_separated 124 = .ok (.iload 4, 2) := by decide +kernel
theorem dX4_separated_126 : decode cX4_separated 126 = .ok (.invokevirtual 107, 3) := by decide +kernel
theorem dX4_separated_129 : decode cX4_separated 129 = .ok (.if_icmp .eq 7, 3) := by decide +kernel
theorem dX4_separated_132 : decode cX4_separated 132 = .ok (.iconst 1, 1) := by decide +kernel
theorem dX4_separated_133 : decode cX4_separated 133 = .ok (.goto 4, 3) := by decide +kernel
theorem dX4_separated_136 : decode cX4_separated 136 = .ok (.iconst 0, 1) := by decide +kernel
theorem dX4_separated_137 : decode cX4_separated 137 = .ok (.ireturn, 1) := by decide +kernel
theorem dX4_convex_0 : decode cX4_convex 0 = .ok (.iload_n 1, 1) := by decide +kernel
theorem dX4_convex_1 : decode cX4_convex 1 = .ok (.iconst 3, 1) := by decide +kernel
theorem dX4_convex_2 : decode cX4_convex 2 = .ok (.if_icmp .ge 6, 3) := by decide +kernel
theorem dX4_convex_5 : decode cX4_convex 5 = .ok (.bipush (-2), 2) := by decide +kernel
theorem dX4_convex_7 : decode cX4_convex 7 = .ok (.ireturn, 1) := by decide +kernel
theorem dX4_convex_8 : decode cX4_convex 8 = .ok (.aload_n 0, 1) := by decide +kernel
theorem dX4_convex_9 : decode cX4_convex 9 = .ok (.getfield 28, 3) := by decide +kernel
theorem dX4_convex_12 : decode cX4_convex 12 = .ok (.iload_n 1, 1) := by decide +kernel
theorem dX4_convex_13 : decode cX4_convex 13 = .ok (.invokevirtual 156, 3) := by decide +kernel
theorem dX4_convex_16 : decode cX4_convex 16 = .ok (.istore_n 2, 1) := by decide +kernel
theorem dX4_convex_17 : decode cX4_convex 17 = .ok (.iload_n 2, 1) := by decide +kernel
theorem dX4_convex_18 : decode cX4_convex 18 = .ok (.ifCond .eq 7, 3) := by decide +kernel
theorem dX4_convex_21 : decode cX4_convex 21 = .ok (.iload_n 2, 1) := by decide +kernel
theorem dX4_convex_22 : decode cX4_convex 22 = .ok (.goto 11, 3) := by decide +kernel
theorem dX4_convex_25 : decode cX4_convex 25 = .ok (.aload_n 0, 1) := by decide +kernel
theorem dX4_convex_26 : decode cX4_convex 26 = .ok (.getfield 28, 3) := by decide +kernel
theorem dX4_convex_29 : decode cX4_convex 29 = .ok (.iload_n 1, 1) := by decide +kernel
theorem dX4_convex_30 : decode cX4_convex 30 = .ok (.invokevirtual 159, 3) := by decide +kernel
theorem dX4_convex_33 : decode cX4_convex 33 = .ok (.ireturn, 1) := by decide +kernel
theorem dX4_polygon_0 : decode cX4_polygon 0 = .ok (.aload_n 0, 1) := by decide +kernel
theorem dX4_polygon_1 : decode cX4_polygon 1 = .ok (.iload_n 1, 1) := by decide +kernel
theorem dX4_polygon_2 : decode cX4_polygon 2 = .ok (.iload_n 2, 1) := by decide +kernel
theorem dX4_polygon_3 : decode cX4_polygon 3 = .ok (.invokevirtual 162, 3) := by decide +kernel
theorem dX4_polygon_6 : decode cX4_polygon 6 = .ok (.istore_n 3, 1) := by decide +kernel
theorem dX4_polygon_7 : decode cX4_polygon 7 = .ok (.iload_n 3, 1) := by decide +kernel
theorem dX4_polygon_8 : decode cX4_polygon 8 = .ok (.ifCond .eq 5, 3) := by decide +kernel
theorem dX4_polygon_11 : decode cX4_polygon 11 = .ok (.iload_n 3, 1) := by decide +kernel
theorem dX4_polygon_12 : decode cX4_polygon 12 = .ok (.ireturn, 1) := by decide +kernel
theorem dX4_polygon_13 : decode cX4_polygon 13 = .ok (.aload_n 0, 1) := by decide +kernel
theorem dX4_polygon_14 : decode cX4_polygon 14 = .ok (.getfield 28, 3) := by decide +kernel
theorem dX4_polygon_17 : decode cX4_polygon 17 = .ok (.iload_n 1, 1) := by decide +kernel
theorem dX4_polygon_18 : decode cX4_polygon 18 = .ok (.iload_n 2, 1) := by decide +kernel
theorem dX4_polygon_19 : decode cX4_polygon 19 = .ok (.invokevirtual 165, 3) := by decide +kernel
theorem dX4_polygon_22 : decode cX4_polygon 22 = .ok (.ifCond .eq 5, 3) := by decide +kernel
theorem dX4_polygon_25 : decode cX4_polygon 25 = .ok (.iconst 2, 1) := by decide +kernel
theorem dX4_polygon_26 : decode cX4_polygon 26 = .ok (.ireturn, 1) := by decide +kernel
theorem dX4_polygon_27 : decode cX4_polygon 27 = .ok (.aload_n 0, 1) := by decide +kernel
theorem dX4_polygon_28 : decode cX4_polygon 28 = .ok (.getfield 28, 3) := by decide +kernel
theorem dX4_polygon_31 : decode cX4_polygon 31 = .ok (.iload_n 1, 1) := by decide +kernel
theorem dX4_polygon_32 : decode cX4_polygon 32 = .ok (.iload_n 2, 1) := by decide +kernel
theorem dX4_polygon_33 : decode cX4_polygon 33 = .ok (.invokevirtual 168, 3) := by decide +kernel
theorem dX4_polygon_36 : decode cX4_polygon 36 = .ok (.aload_n 0, 1) := by decide +kernel
theorem dX4_polygon_37 : decode cX4_polygon 37 = .ok (.getfield 28, 3) := by decide +kernel
theorem dX4_polygon_40 : decode cX4_polygon 40 = .ok (.iload_n 1, 1) := by decide +kernel
theorem dX4_polygon_41 : decode cX4_polygon 41 = .ok (.iload_n 2, 1) := by decide +kernel
theorem dX4_polygon_42 : decode cX4_polygon 42 = .ok (.invokevirtual 171, 3) := by decide +kernel
theorem dX4_polygon_45 : decode cX4_polygon 45 = .ok (.iadd, 1) := by decide +kernel
theorem dX4_polygon_46 : decode cX4_polygon 46 = .ok (.iconst 1, 1) := by decide +kernel
theorem dX4_polygon_47 : decode cX4_polygon 47 = .ok (.iand, 1) := by decide +kernel
theorem dX4_polygon_48 : decode cX4_polygon 48 = .ok (.ireturn, 1) := by decide +kernel
theorem dX4_winding_0 : decode cX4_winding 0 = .ok (.aload_n 0, 1) := by decide +kernel
theorem dX4_winding_1 : decode cX4_winding 1 = .ok (.iload_n 1, 1) := by decide +kernel
theorem dX4_winding_2 : decode cX4_winding 2 = .ok (.iload_n 2, 1) := by decide +kernel
theorem dX4_winding_3 : decode cX4_winding 3 = .ok (.invokevirtual 162, 3) := by decide +kernel
theorem dX4_winding_6 : decode cX4_winding 6 = .ok (.ifCond .eq 6, 3) := by decide +kernel
theorem dX4_winding_9 : decode cX4_winding 9 = .ok (.bipush (-100), 2) := by decide +kernel
theorem dX4_winding_11 : decode cX4_winding 11 = .ok (.ireturn, 1) := by decide +kernel
theorem dX4_winding_12 : decode cX4_winding 12 = .ok (.aload_n 0, 1) := by decide +kernel
theorem dX4_winding_13 : decode cX4_winding 13 = .ok (.getfield 28, 3) := by decide +kernel
theorem dX4_winding_16 : decode cX4_winding 16 = .ok (.iload_n 1, 1) := by decide +kernel
theorem dX4_winding_17 : decode cX4_winding 17 = .ok (.iload_n 2, 1) := by decide +kernel
theorem dX4_winding_18 : decode cX4_winding 18 = .ok (.invokevirtual 165, 3) := by decide +kernel
theorem dX4_winding_21 : decode cX4_winding 21 = .ok (.ifCond .eq 6, 3) := by decide +kernel
theorem dX4_winding_24 : decode cX4_winding 24 = .ok (.bipush 100, 2) := by decide +kernel
theorem dX4_winding_26 : decode cX4_winding 26 = .ok (.ireturn, 1) := by decide +kernel
theorem dX4_winding_27 : decode cX4_winding 27 = .ok (.aload_n 0, 1) := by decide +kernel
theorem dX4_winding_28 : decode cX4_winding 28 = .ok (.getfield 28, 3) := by decide +kernel
theorem dX4_winding_31 : decode cX4_winding 31 = .ok (.iload_n 1, 1) := by decide +kernel
theorem dX4_winding_32 : decode cX4_winding 32 = .ok (.iload_n 2, 1) := by decide +kernel
theorem dX4_winding_33 : decode cX4_winding 33 = .ok (.invokevirtual 168, 3) := by decide +kernel
theorem dX4_winding_36 : decode cX4_winding 36 = .ok (.aload_n 0, 1) := by decide +kernel
theorem dX4_winding_37 : decode cX4_winding 37 = .ok (.getfield 28, 3) := by decide +kernel
theorem dX4_winding_40 : decode cX4_winding 40 = .ok (.iload_n 1, 1) := by decide +kernel
theorem dX4_winding_41 : decode cX4_winding 41 = .ok (.iload_n 2, 1) := by decide +kernel
theorem dX4_winding_42 : decode cX4_winding 42 = .ok (.invokevirtual 171, 3) := by decide +kernel
theorem dX4_winding_45 : decode cX4_winding 45 = .ok (.isub, 1) := by decide +kernel
theorem dX4_winding_46 : decode cX4_winding 46 = .ok (.ireturn, 1) := by decide +kernel
theorem dX4_nearest_0 : decode cX4_nearest 0 = .ok (.aload_n 0, 1) := by decide +kernel
theorem dX4_nearest_1 : decode cX4_nearest 1 = .ok (.iload_n 2, 1) := by decide +kernel
theorem dX4_nearest_2 : decode cX4_nearest 2 = .ok (.iload_n 1, 1) := by decide +kernel
theorem dX4_nearest_3 : decode cX4_nearest 3 = .ok (.invokevirtual 162, 3) := by decide +kernel
theorem dX4_nearest_6 : decode cX4_nearest 6 = .ok (.istore_n 3, 1) := by decide +kernel
theorem dX4_nearest_7 : decode cX4_nearest 7 = .ok (.iload_n 3, 1) := by decide +kernel
theorem dX4_nearest_8 : decode cX4_nearest 8 = .ok (.ifCond .eq 7, 3) := by decide +kernel
theorem dX4_nearest_11 : decode cX4_nearest 11 = .ok (.iload_n 3, 1) := by decide +kernel
theorem dX4_nearest_12 : decode cX4_nearest 12 = .ok (.goto 12, 3) := by decide +kernel
theorem dX4_nearest_15 : decode cX4_nearest 15 = .ok (.aload_n 0, 1) := by decide +kernel
theorem dX4_nearest_16 : decode cX4_nearest 16 = .ok (.getfield 28, 3) := by decide +kernel
theorem dX4_nearest_19 : decode cX4_nearest 19 = .ok (.iload_n 1, 1) := by decide +kernel
theorem dX4_nearest_20 : decode cX4_nearest 20 = .ok (.iload_n 2, 1) := by decide +kernel
theorem dX4_nearest_21 : decode cX4_nearest 21 = .ok (.invokevirtual 174, 3) := by decide +kernel
theorem dX4_nearest_24 : decode cX4_nearest 24 = .ok (.ireturn, 1) := by decide +kernel
theorem dX4_around_0 : decode cX4_around 0 = .ok (.iload_n 3, 1) := by decide +kernel
theorem dX4_around_1 : decode cX4_around 1 = .ok (.iload_n 2, 1) := by decide +kernel
theorem dX4_around_2 : decode cX4_around 2 = .ok (.invokestatic 177, 3) := by decide +kernel
theorem dX4_around_5 : decode cX4_around 5 = .ok (.ifCond .ne 6, 3) := by decide +kernel
theorem dX4_around_8 : decode cX4_around 8 = .ok (.bipush (-2), 2) := by decide +kernel
theorem dX4_around_10 : decode cX4_around 10 = .ok (.ireturn, 1) := by decide +kernel
theorem dX4_around_11 : decode cX4_around 11 = .ok (.aload_n 0, 1) := by decide +kernel
theorem dX4_around_12 : decode cX4_around 12 = .ok (.iload_n 2, 1) := by decide +kernel
theorem dX4_around_13 : decode cX4_around 13 = .ok (.iload_n 1, 1) := by decide +kernel
theorem dX4_around_14 : decode cX4_around 14 = .ok (.invokevirtual 162, 3) := by decide +kernel
theorem dX4_around_17 : decode cX4_around 17 = .ok (.istore 4, 2) := by decide +kernel
theorem dX4_around_19 : decode cX4_around 19 = .ok (.iload 4, 2) := by decide +kernel
theorem dX4_around_21 : decode cX4_around 21 = .ok (.ifCond .eq 8, 3) := by decide +kernel
theorem dX4_around_24 : decode cX4_around 24 = .ok (.iload 4, 2) := by decide +kernel
theorem dX4_around_26 : decode cX4_around 26 = .ok (.goto 13, 3) := by decide +kernel
theorem dX4_around_29 : decode cX4_around 29 = .ok (.aload_n 0, 1) := by decide +kernel
theorem dX4_around_30 : decode cX4_around 30 = .ok (.getfield 28, 3) := by decide +kernel
theorem dX4_around_33 : decode cX4_around 33 = .ok (.iload_n 2, 1) := by decide +kernel
theorem dX4_around_34 : decode cX4_around 34 = .ok (.iload_n 3, 1) := by decide +kernel
theorem dX4_around_35 : decode cX4_around 35 = .ok (.iload_n 1, 1) := by decide +kernel
theorem dX4_around_36 : decode cX4_around 36 = .ok (.invokevirtual 180, 3) := by decide +kernel
theorem dX4_around_39 : decode cX4_around 39 = .ok (.ireturn, 1) := by decide +kernel
theorem dX4_order_0 : decode cX4_order 0 = .ok (.iload_n 2, 1) := by decide +kernel
theorem dX4_order_1 : decode cX4_order 1 = .ok (.iload_n 1, 1) := by decide +kernel
theorem dX4_order_2 : decode cX4_order 2 = .ok (.invokestatic 177, 3) := by decide +kernel
theorem dX4_order_5 : decode cX4_order 5 = .ok (.ifCond .ne 6, 3) := by decide +kernel
theorem dX4_order_8 : decode cX4_order 8 = .ok (.bipush (-2), 2) := by decide +kernel
theorem dX4_order_10 : decode cX4_order 10 = .ok (.ireturn, 1) := by decide +kernel
theorem dX4_order_11 : decode cX4_order 11 = .ok (.aload_n 0, 1) := by decide +kernel
theorem dX4_order_12 : decode cX4_order 12 = .ok (.getfield 28, 3) := by decide +kernel
theorem dX4_order_15 : decode cX4_order 15 = .ok (.iload_n 1, 1) := by decide +kernel
theorem dX4_order_16 : decode cX4_order 16 = .ok (.invokevirtual 156, 3) := by decide +kernel
theorem dX4_order_19 : decode cX4_order 19 = .ok (.istore_n 3, 1) := by decide +kernel
theorem dX4_order_20 : decode cX4_order 20 = .ok (.iload_n 3, 1) := by decide +kernel
theorem dX4_order_21 : decode cX4_order 21 = .ok (.ifCond .eq 7, 3) := by decide +kernel
theorem dX4_order_24 : decode cX4_order 24 = .ok (.iload_n 3, 1) := by decide +kernel
theorem dX4_order_25 : decode cX4_order 25 = .ok (.goto 13, 3) := by decide +kernel
theorem dX4_order_28 : decode cX4_order 28 = .ok (.aload_n 0, 1) := by decide +kernel
theorem dX4_order_29 : decode cX4_order 29 = .ok (.getfield 28, 3) := by decide +kernel
theorem dX4_order_32 : decode cX4_order 32 = .ok (.iload_n 1, 1) := by decide +kernel
theorem dX4_order_33 : decode cX4_order 33 = .ok (.iload_n 2, 1) := by decide +kernel
theorem dX4_order_34 : decode cX4_order 34 = .ok (.iconst (-1), 1) := by decide +kernel
theorem dX4_order_35 : decode cX4_order 35 = .ok (.invokevirtual 180, 3) := by decide +kernel
theorem dX4_order_38 : decode cX4_order 38 = .ok (.ireturn, 1) := by decide +kernel
theorem dX4_area_0 : decode cX4_area 0 = .ok (.aload_n 0, 1) := by decide +kernel
theorem dX4_area_1 : decode cX4_area 1 = .ok (.getfield 28, 3) := by decide +kernel
theorem dX4_area_4 : decode cX4_area 4 = .ok (.iload_n 1, 1) := by decide +kernel
theorem dX4_area_5 : decode cX4_area 5 = .ok (.invokevirtual 156, 3) := by decide +kernel
theorem dX4_area_8 : decode cX4_area 8 = .ok (.ifCond .eq 5, 3) := by decide +kernel
theorem dX4_area_11 : decode cX4_area 11 = .ok (.lconst 0, 1) := by decide +kernel
theorem dX4_area_12 : decode cX4_area 12 = .ok (.lreturn, 1) := by decide +kernel
theorem dX4_area_13 : decode cX4_area 13 = .ok (.lload_n 2, 1) := by decide +kernel
theorem dX4_area_14 : decode cX4_area 14 = .ok (.lconst 0, 1) := by decide +kernel
theorem dX4_area_15 : decode cX4_area 15 = .ok (.lcmp, 1) := by decide +kernel
theorem dX4_area_16 : decode cX4_area 16 = .ok (.ifCond .ne 13, 3) := by decide +kernel
theorem dX4_area_19 : decode cX4_area 19 = .ok (.new 183, 3) := by decide +kernel
theorem dX4_area_22 : decode cX4_area 22 = .ok (.dup, 1) := by decide +kernel
theorem dX4_area_23 : decode cX4_area 23 = .ok (.ldc 185, 2) := by decide +kernel
theorem dX4_area_25 : decode cX4_area 25 = .ok (.invokespecial 187, 3) := by decide +kernel
theorem dX4_area_28 : decode cX4_area 28 = .ok (.athrow, 1) := by decide +kernel
theorem dX4_area_29 : decode cX4_area 29 = .ok (.aload_n 0, 1) := by decide +kernel
theorem dX4_area_30 : decode cX4_area 30 = .ok (.getfield 28, 3) := by decide +kernel
theorem dX4_area_33 : decode cX4_area 33 = .ok (.iload_n 1, 1) := by decide +kernel
theorem dX4_area_34 : decode cX4_area 34 = .ok (.invokevirtual 188, 3) := by decide +kernel
theorem dX4_area_37 : decode cX4_area 37 = .ok (.lload_n 2, 1) := by decide +kernel
theorem dX4_area_38 : decode cX4_area 38 = .ok (.ldiv, 1) := by decide +kernel
theorem dX4_area_39 : decode cX4_area 39 = .ok (.lreturn, 1) := by decide +kernel
theorem dX4_line_0 : decode cX4_line 0 = .ok (.aload_n 0, 1) := by decide +kernel
theorem dX4_line_1 : decode cX4_line 1 = .ok (.getfield 10, 3) := by decide +kernel
theorem dX4_line_4 : decode cX4_line 4 = .ok (.iload_n 1, 1) := by decide +kernel
theorem dX4_line_5 : decode cX4_line 5 = .ok (.invokevirtual 65, 3) := by decide +kernel
theorem dX4_line_8 : decode cX4_line 8 = .ok (.ifCond .eq 14, 3) := by decide +kernel
theorem dX4_line_11 : decode cX4_line 11 = .ok (.aload_n 0, 1) := by decide +kernel
theorem dX4_line_12 : decode cX4_line 12 = .ok (.getfield 10, 3) := by decide +kernel
theorem dX4_line_15 : decode cX4_line 15 = .ok (.iload_n 2, 1) := by decide +kernel
theorem dX4_line_16 : decode cX4_line 16 = .ok (.invokevirtual 65, 3) := by decide +kernel
theorem dX4_line_19 : decode cX4_line 19 = .ok (.ifCond .ne 6, 3) := by decide +kernel
theorem dX4_line_22 : decode cX4_line 22 = .ok (.bipush (-2), 2) := by decide +kernel
theorem dX4_line_24 : decode cX4_line 24 = .ok (.ireturn, 1) := by decide +kernel
theorem dX4_line_25 : decode cX4_line 25 = .ok (.aload_n 0, 1) := by decide +kernel
theorem dX4_line_26 : decode cX4_line 26 = .ok (.getfield 10, 3) := by decide +kernel
theorem dX4_line_29 : decode cX4_line 29 = .ok (.iload_n 1, 1) := by decide +kernel
theorem dX4_line_30 : decode cX4_line 30 = .ok (.iload_n 2, 1) := by decide +kernel
theorem dX4_line_31 : decode cX4_line 31 = .ok (.invokevirtual 95, 3) := by decide +kernel
theorem dX4_line_34 : decode cX4_line 34 = .ok (.ifCond .eq 6, 3) := by decide +kernel
theorem dX4_line_37 : decode cX4_line 37 = .ok (.bipush (-4), 2) := by decide +kernel
theorem dX4_line_39 : decode cX4_line 39 = .ok (.ireturn, 1) := by decide +kernel
theorem dX4_line_40 : decode cX4_line 40 = .ok (.aload_n 0, 1) := by decide +kernel
theorem dX4_line_41 : decode cX4_line 41 = .ok (.getfield 35, 3) := by decide +kernel
theorem dX4_line_44 : decode cX4_line 44 = .ok (.getfield 192, 3) := by decide +kernel
theorem dX4_line_47 : decode cX4_line 47 = .ok (.bipush 12, 2) := by decide +kernel
theorem dX4_line_49 : decode cX4_line 49 = .ok (.if_icmp .lt 6, 3) := by decide +kernel
theorem dX4_line_52 : decode cX4_line 52 = .ok (.bipush (-3), 2) := by decide +kernel
theorem dX4_line_54 : decode cX4_line 54 = .ok (.ireturn, 1) := by decide +kernel
theorem dX4_line_55 : decode cX4_line 55 = .ok (.aload_n 0, 1) := by decide +kernel
theorem dX4_line_56 : decode cX4_line 56 = .ok (.getfield 35, 3) := by decide +kernel
theorem dX4_line_59 : decode cX4_line 59 = .ok (.aload_n 0, 1) := by decide +kernel
theorem dX4_line_60 : decode cX4_line 60 = .ok (.getfield 10, 3) := by decide +kernel
theorem dX4_line_63 : decode cX4_line 63 = .ok (.getfield 89, 3) := by decide +kernel
theorem dX4_line_66 : decode cX4_line 66 = .ok (.iload_n 1, 1) := by decide +kernel
theorem dX4_line_67 : decode cX4_line 67 = .ok (.iaload, 1) := by decide +kernel
theorem dX4_line_68 : decode cX4_line 68 = .ok (.aload_n 0, 1) := by decide +kernel
theorem dX4_line_69 : decode cX4_line 69 = .ok (.getfield 10, 3) := by decide +kernel
theorem dX4_line_72 : decode cX4_line 72 = .ok (.getfield 92, 3) := by decide +kernel
theorem dX4_line_75 : decode cX4_line 75 = .ok (.iload_n 1, 1) := by decide +kernel
theorem dX4_line_76 : decode cX4_line 76 = .ok (.iaload, 1) := by decide +kernel
theorem dX4_line_77 : decode cX4_line 77 = .ok (.aload_n 0, 1) := by decide +kernel
theorem dX4_line_78 : decode cX4_line 78 = .ok (.getfield 10, 3) := by decide +kernel
theorem dX4_line_81 : decode cX4_line 81 = .ok (.getfield 89, 3) := by decide +kernel
theorem dX4_line_84 : decode cX4_line 84 = .ok (.iload_n 2, 1) := by decide +kernel
theorem dX4_line_85 : decode cX4_line 85 = .ok (.iaload, 1) := by decide +kernel
theorem dX4_line_86 : decode cX4_line 86 = .ok (.aload_n 0, 1) := by decide +kernel
theorem dX4_line_87 : decode cX4_line 87 = .ok (.getfield 10, 3) := by decide +kernel
theorem dX4_line_90 : decode cX4_line 90 = .ok (.getfield 92, 3) := by decide +kernel
theorem dX4_line_93 : decode cX4_line 93 = .ok (.iload_n 2, 1) := by decide +kernel
theorem dX4_line_94 : decode cX4_line 94 = .ok (.iaload, 1) := by decide +kernel
theorem dX4_line_95 : decode cX4_line 95 = .ok (.invokevirtual 193, 3) := by decide +kernel
theorem dX4_line_98 : decode cX4_line 98 = .ok (.ireturn, 1) := by decide +kernel
theorem dX4_lines_0 : decode cX4_lines 0 = .ok (.iload_n 1, 1) := by decide +kernel
theorem dX4_lines_1 : decode cX4_lines 1 = .ok (.ifCond .lt 23, 3) := by decide +kernel
theorem dX4_lines_4 : decode cX4_lines 4 = .ok (.iload_n 1, 1) := by decide +kernel
theorem dX4_lines_5 : decode cX4_lines 5 = .ok (.aload_n 0, 1) := by decide +kernel
theorem dX4_lines_6 : decode cX4_lines 6 = .ok (.getfield 35, 3) := by decide +kernel
theorem dX4_lines_9 : decode cX4_lines 9 = .ok (.getfield 192, 3) := by decide +kernel
theorem dX4_lines_12 : decode cX4_lines 12 = .ok (.if_icmp .gt 12, 3) := by decide +kernel
theorem dX4_lines_15 : decode cX4_lines 15 = .ok (.iload_n 2, 1) := by decide +kernel
theorem dX4_lines_16 : decode cX4_lines 16 = .ok (.ifCond .lt 8, 3) := by decide +kernel
theorem dX4_lines_19 : decode cX4_lines 19 = .ok (.iload_n 2, 1) := by decide +kernel
theorem dX4_lines_20 : decode cX4_lines 20 = .ok (.iconst 5, 1) := by decide +kernel
theorem dX4_lines_21 : decode cX4_lines 21 = .ok (.if_icmp .le 6, 3) := by decide +kernel
theorem dX4_lines_24 : decode cX4_lines 24 = .ok (.bipush (-2), 2) := by decide +kernel
theorem dX4_lines_26 : decode cX4_lines 26 = .ok (.ireturn, 1) := by decide +kernel
theorem dX4_lines_27 : decode cX4_lines 27 = .ok (.aload_n 0, 1) := by decide +kernel
theorem dX4_lines_28 : decode cX4_lines 28 = .ok (.getfield 35, 3) := by decide +kernel
theorem dX4_lines_31 : decode cX4_lines 31 = .ok (.iload_n 1, 1) := by decide +kernel
theorem dX4_lines_32 : decode cX4_lines 32 = .ok (.invokevirtual 195, 3) := by decide +kernel
theorem dX4_lines_35 : decode cX4_lines 35 = .ok (.iload_n 2, 1) := by decide +kernel
theorem dX4_lines_36 : decode cX4_lines 36 = .ok (.tableswitch 84 0 4 #[36, 44, 52, 60, 76], 36) := by decide +kernel
theorem dX4_lines_72 : decode cX4_lines 72 = .ok (.aload_n 0, 1) := by decide +kernel
theorem dX4_lines_73 : decode cX4_lines 73 = .ok (.getfield 35, 3) := by decide +kernel
theorem dX4_lines_76 : decode cX4_lines 76 = .ok (.getfield 199, 3) := by decide +kernel
theorem dX4_lines_79 : decode cX4_lines 79 = .ok (.ireturn, 1) := by decide +kernel
theorem dX4_lines_80 : decode cX4_lines 80 = .ok (.aload_n 0, 1) := by decide +kernel
theorem dX4_lines_81 : decode cX4_lines 81 = .ok (.getfield 35, 3) := by decide +kernel
theorem dX4_lines_84 : decode cX4_lines 84 = .ok (.getfield 202, 3) := by decide +kernel
theorem dX4_lines_87 : decode cX4_lines 87 = .ok (.ireturn, 1) := by decide +kernel
theorem dX4_lines_88 : decode cX4_lines 88 = .ok (.aload_n 0, 1) := by decide +kernel
theorem dX4_lines_89 : decode cX4_lines 89 = .ok (.getfield 35, 3) := by decide +kernel
theorem dX4_lines_92 : decode cX4_lines 92 = .ok (.invokevirtual 205, 3) := by decide +kernel
theorem dX4_lines_95 : decode cX4_lines 95 = .ok (.ireturn, 1) := by decide +kernel
theorem dX4_lines_96 : decode cX4_lines 96 = .ok (.aload_n 0, 1) := by decide +kernel
theorem dX4_lines_97 : decode cX4_lines 97 = .ok (.getfield 35, 3) := by decide +kernel
theorem dX4_lines_100 : decode cX4_lines 100 = .ok (.getfield 199, 3) := by decide +kernel
theorem dX4_lines_103 : decode cX4_lines 103 = .ok (.aload_n 0, 1) := by decide +kernel
theorem dX4_lines_104 : decode cX4_lines 104 = .ok (.getfield 35, 3) := by decide +kernel
theorem dX4_lines_107 : decode cX4_lines 107 = .ok (.getfield 209, 3) := by decide +kernel
theorem dX4_lines_110 : decode cX4_lines 110 = .ok (.iadd, 1) := by decide +kernel
theorem dX4_lines_111 : decode cX4_lines 111 = .ok (.ireturn, 1) := by decide +kernel
theorem dX4_lines_112 : decode cX4_lines 112 = .ok (.aload_n 0, 1) := by decide +kernel
theorem dX4_lines_113 : decode cX4_lines 113 = .ok (.getfield 35, 3) := by decide +kernel
theorem dX4_lines_116 : decode cX4_lines 116 = .ok (.invokevirtual 212, 3) := by decide +kernel
theorem dX4_lines_119 : decode cX4_lines 119 = .ok (.ireturn, 1) := by decide +kernel
theorem dX4_lines_120 : decode cX4_lines 120 = .ok (.aload_n 0, 1) := by decide +kernel
theorem dX4_lines_121 : decode cX4_lines 121 = .ok (.getfield 35, 3) := by decide +kernel
theorem dX4_lines_124 : decode cX4_lines 124 = .ok (.getfield 215, 3) := by decide +kernel
theorem dX4_lines_127 : decode cX4_lines 127 = .ok (.ireturn, 1) := by decide +kernel
theorem dX4_count_0 : decode cX4_count 0 = .ok (.iload_n 1, 1) := by decide +kernel
theorem dX4_count_1 : decode cX4_count 1 = .ok (.tableswitch 71 0 3 #[31, 39, 47, 55], 31) := by decide +kernel
theorem dX4_count_32 : decode cX4_count 32 = .ok (.aload_n 0, 1) := by decide +kernel
theorem dX4_count_33 : decode cX4_count 33 = .ok (.getfield 10, 3) := by decide +kernel
theorem dX4_count_36 : decode cX4_count 36 = .ok (.getfield 46, 3) := by decide +kernel
theorem dX4_count_39 : decode cX4_count 39 = .ok (.ireturn, 1) := by decide +kernel
theorem dX4_count_40 : decode cX4_count 40 = .ok (.aload_n 0, 1) := by decide +kernel
theorem dX4_count_41 : decode cX4_count 41 = .ok (.getfield 28, 3) := by decide +kernel
theorem dX4_count_44 : decode cX4_count 44 = .ok (.getfield 218, 3) := by decide +kernel
theorem dX4_count_47 : decode cX4_count 47 = .ok (.ireturn, 1) := by decide +kernel
theorem dX4_count_48 : decode cX4_count 48 = .ok (.aload_n 0, 1) := by decide +kernel
theorem dX4_count_49 : decode cX4_count 49 = .ok (.getfield 35, 3) := by decide +kernel
theorem dX4_count_52 : decode cX4_count 52 = .ok (.getfield 192, 3) := by decide +kernel
theorem dX4_count_55 : decode cX4_count 55 = .ok (.ireturn, 1) := by decide +kernel
theorem dX4_count_56 : decode cX4_count 56 = .ok (.aload_n 0, 1) := by decide +kernel
theorem dX4_count_57 : decode cX4_count 57 = .ok (.getfield 21, 3) := by decide +kernel
theorem dX4_count_60 : decode cX4_count 60 = .ok (.getfield 99, 3) := by decide +kernel
theorem dX4_count_63 : decode cX4_count 63 = .ok (.ifCond .eq 7, 3) := by decide +kernel
theorem dX4_count_66 : decode cX4_count 66 = .ok (.iconst 1, 1) := by decide +kernel
theorem dX4_count_67 : decode cX4_count 67 = .ok (.goto 4, 3) := by decide +kernel
theorem dX4_count_70 : decode cX4_count 70 = .ok (.iconst 0, 1) := by decide +kernel
theorem dX4_count_71 : decode cX4_count 71 = .ok (.ireturn, 1) := by decide +kernel
theorem dX4_count_72 : decode cX4_count 72 = .ok (.bipush (-2), 2) := by decide +kernel
theorem dX4_count_74 : decode cX4_count 74 = .ok (.ireturn, 1) := by decide +kernel
theorem dX4_refusalWithPoint_0 : decode cX4_refusalWithPoint 0 = .ok (.aload_n 0, 1) := by decide +kernel
theorem dX4_refusalWithPoint_1 : decode cX4_refusalWithPoint 1 = .ok (.getfield 10, 3) := by decide +kernel
theorem dX4_refusalWithPoint_4 : decode cX4_refusalWithPoint 4 = .ok (.iload_n 2, 1) := by decide +kernel
theorem dX4_refusalWithPoint_5 : decode cX4_refusalWithPoint 5 = .ok (.invokevirtual 65, 3) := by decide +kernel
theorem dX4_refusalWithPoint_8 : decode cX4_refusalWithPoint 8 = .ok (.ifCond .eq 14, 3) := by decide +kernel
theorem dX4_refusalWithPoint_11 : decode cX4_refusalWithPoint 11 = .ok (.aload_n 0, 1) := by decide +kernel
theorem dX4_refusalWithPoint_12 : decode cX4_refusalWithPoint 12 = .ok (.getfield 28, 3) := by decide +kernel
theorem dX4_refusalWithPoint_15 : decode cX4_refusalWithPoint 15 = .ok (.iload_n 1, 1) := by decide +kernel
theorem dX4_refusalWithPoint_16 : decode cX4_refusalWithPoint 16 = .ok (.invokevirtual 156, 3) := by decide +kernel
theorem dX4_refusalWithPoint_19 : decode cX4_refusalWithPoint 19 = .ok (.goto 5, 3) := by decide +kernel
theorem dX4_refusalWithPoint_22 : decode cX4_refusalWithPoint 22 = .ok (.bipush (-2), 2) := by decide +kernel
theorem dX4_refusalWithPoint_24 : decode cX4_refusalWithPoint 24 = .ok (.ireturn, 1) := by decide +kernel
theorem dX4_isRank_0 : decode cX4_isRank 0 = .ok (.iload_n 0, 1) := by decide +kernel
theorem dX4_isRank_1 : decode cX4_isRank 1 = .ok (.ifCond .lt 12, 3) := by decide +kernel
theorem dX4_isRank_4 : decode cX4_isRank 4 = .ok (.iload_n 0, 1) := by decide +kernel
theorem dX4_isRank_5 : decode cX4_isRank 5 = .ok (.iload_n 1, 1) := by decide +kernel
theorem dX4_isRank_6 : decode cX4_isRank 6 = .ok (.if_icmp .ge 7, 3) := by decide +kernel
theorem dX4_isRank_9 : decode cX4_isRank 9 = .ok (.iconst 1, 1) := by decide +kernel
theorem dX4_isRank_10 : decode cX4_isRank 10 = .ok (.goto 4, 3) := by decide +kernel
theorem dX4_isRank_13 : decode cX4_isRank 13 = .ok (.iconst 0, 1) := by decide +kernel
theorem dX4_isRank_14 : decode cX4_isRank 14 = .ok (.ireturn, 1) := by decide +kernel
theorem dX4_isCoordinate_0 : decode cX4_isCoordinate 0 = .ok (.lload_n 0, 1) := by decide +kernel
theorem dX4_isCoordinate_1 : decode cX4_isCoordinate 1 = .ok (.ldc2_w 219, 3) := by decide +kernel
theorem dX4_isCoordinate_4 : decode cX4_isCoordinate 4 = .ok (.lcmp, 1) := by decide +kernel
theorem dX4_isCoordinate_5 : decode cX4_isCoordinate 5 = .ok (.ifCond .lt 15, 3) := by decide +kernel
theorem dX4_isCoordinate_8 : decode cX4_isCoordinate 8 = .ok (.lload_n 0, 1) := by decide +kernel
theorem dX4_isCoordinate_9 : decode cX4_isCoordinate 9 = .ok (.ldc2_w 221, 3) := by decide +kernel
theorem dX4_isCoordinate_12 : decode cX4_isCoordinate 12 = .ok (.lcmp, 1) := by decide +kernel
theorem dX4_isCoordinate_13 : decode cX4_isCoordinate 13 = .ok (.ifCond .gt 7, 3) := by decide +kernel
theorem dX4_isCoordinate_16 : decode cX4_isCoordinate 16 = .ok (.iconst 1, 1) := by decide +kernel
theorem dX4_isCoordinate_17 : decode cX4_isCoordinate 17 = .ok (.goto 4, 3) := by decide +kernel
theorem dX4_isCoordinate_20 : decode cX4_isCoordinate 20 = .ok (.iconst 0, 1) := by decide +kernel
theorem dX4_isCoordinate_21 : decode cX4_isCoordinate 21 = .ok (.ireturn, 1) := by decide +kernel
theorem dX4_isDown_0 : decode cX4_isDown 0 = .ok (.lload_n 0, 1) := by decide +kernel
theorem dX4_isDown_1 : decode cX4_isDown 1 = .ok (.lconst 1, 1) := by decide +kernel
theorem dX4_isDown_2 : decode cX4_isDown 2 = .ok (.lcmp, 1) := by decide +kernel
theorem dX4_isDown_3 : decode cX4_isDown 3 = .ok (.ifCond .lt 25, 3) := by decide +kernel
theorem dX4_isDown_6 : decode cX4_isDown 6 = .ok (.lload_n 0, 1) := by decide +kernel
theorem dX4_isDown_7 : decode cX4_isDown 7 = .ok (.ldc2_w 223, 3) := by decide +kernel
theorem dX4_isDown_10 : decode cX4_isDown 10 = .ok (.lcmp, 1) := by decide +kernel
theorem dX4_isDown_11 : decode cX4_isDown 11 = .ok (.ifCond .gt 17, 3) := by decide +kernel
theorem dX4_isDown_14 : decode cX4_isDown 14 = .ok (.ldc2_w 223, 3) := by decide +kernel
theorem dX4_isDown_17 : decode cX4_isDown 17 = .ok (.lload_n 0, 1) := by decide +kernel
theorem dX4_isDown_18 : decode cX4_isDown 18 = .ok (.lrem, 1) := by decide +kernel
theorem dX4_isDown_19 : decode cX4_isDown 19 = .ok (.lconst 0, 1) := by decide +kernel
theorem dX4_isDown_20 : decode cX4_isDown 20 = .ok (.lcmp, 1) := by decide +kernel
theorem dX4_isDown_21 : decode cX4_isDown 21 = .ok (.ifCond .ne 7, 3) := by decide +kernel
theorem dX4_isDown_24 : decode cX4_isDown 24 = .ok (.iconst 1, 1) := by decide +kernel
theorem dX4_isDown_25 : decode cX4_isDown 25 = .ok (.goto 4, 3) := by decide +kernel
theorem dX4_isDown_28 : decode cX4_isDown 28 = .ok (.iconst 0, 1) := by decide +kernel
theorem dX4_isDown_29 : decode cX4_isDown 29 = .ok (.ireturn, 1) := by decide +kernel
theorem dX4_signOf_0 : decode cX4_signOf 0 = .ok (.lload_n 0, 1) := by decide +kernel
theorem dX4_signOf_1 : decode cX4_signOf 1 = .ok (.lconst 0, 1) := by decide +kernel
theorem dX4_signOf_2 : decode cX4_signOf 2 = .ok (.lcmp, 1) := by decide +kernel
theorem dX4_signOf_3 : decode cX4_signOf 3 = .ok (.ifCond .le 5, 3) := by decide +kernel
theorem dX4_signOf_6 : decode cX4_signOf 6 = .ok (.iconst 1, 1) := by decide +kernel
theorem dX4_signOf_7 : decode cX4_signOf 7 = .ok (.ireturn, 1) := by decide +kernel
theorem dX4_signOf_8 : decode cX4_signOf 8 = .ok (.lload_n 0, 1) := by decide +kernel
theorem dX4_signOf_9 : decode cX4_signOf 9 = .ok (.lconst 0, 1) := by decide +kernel
theorem dX4_signOf_10 : decode cX4_signOf 10 = .ok (.lcmp, 1) := by decide +kernel
theorem dX4_signOf_11 : decode cX4_signOf 11 = .ok (.ifCond .ge 7, 3) := by decide +kernel
theorem dX4_signOf_14 : decode cX4_signOf 14 = .ok (.iconst (-1), 1) := by decide +kernel
theorem dX4_signOf_15 : decode cX4_signOf 15 = .ok (.goto 4, 3) := by decide +kernel
theorem dX4_signOf_18 : decode cX4_signOf 18 = .ok (.iconst 0, 1) := by decide +kernel
theorem dX4_signOf_19 : decode cX4_signOf 19 = .ok (.ireturn, 1) := by decide +kernel
