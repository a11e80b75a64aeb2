theorem dX3_init_0 : decode cX3_init 0 = .ok (.aload_n 0, 1) := by decide +kernel
theorem dX3_init_1 : decode cX3_init 1 = .ok (.invokespecial 3, 3) := by decide +kernel
theorem dX3_init_4 : decode cX3_init 4 = .ok (.aload_n 0, 1) := by decide +kernel
theorem dX3_init_5 : decode cX3_init 5 = .ok (.bipush 24, 2) := by decide +kernel
theorem dX3_init_7 : decode cX3_init 7 = .ok (.newarray .int, 2) := by decide +kernel
theorem dX3_init_9 : decode cX3_init 9 = .ok (.putfield 9, 3) := by decide +kernel
theorem dX3_init_12 : decode cX3_init 12 = .ok (.aload_n 0, 1) := by decide +kernel
theorem dX3_init_13 : decode cX3_init 13 = .ok (.aload_n 1, 1) := by decide +kernel
theorem dX3_init_14 : decode cX3_init 14 = .ok (.putfield 15, 3) := by decide +kernel
theorem dX3_init_17 : decode cX3_init 17 = .ok (.return_, 1) := by decide +kernel
theorem dX3_resize_0 : decode cX3_resize 0 = .ok (.aload_n 0, 1) := by decide +kernel
theorem dX3_resize_1 : decode cX3_resize 1 = .ok (.getfield 19, 3) := by decide +kernel
theorem dX3_resize_4 : decode cX3_resize 4 = .ok (.istore_n 2, 1) := by decide +kernel
theorem dX3_resize_5 : decode cX3_resize 5 = .ok (.iconst 0, 1) := by decide +kernel
theorem dX3_resize_6 : decode cX3_resize 6 = .ok (.istore_n 3, 1) := by decide +kernel
theorem dX3_resize_7 : decode cX3_resize 7 = .ok (.iload_n 3, 1) := by decide +kernel
theorem dX3_resize_8 : decode cX3_resize 8 = .ok (.iload_n 1, 1) := by decide +kernel
theorem dX3_resize_9 : decode cX3_resize 9 = .ok (.if_icmp .ge 16, 3) := by decide +kernel
theorem dX3_resize_12 : decode cX3_resize 12 = .ok (.aload_n 0, 1) := by decide +kernel
theorem dX3_resize_13 : decode cX3_resize 13 = .ok (.getfield 9, 3) := by decide +kernel
theorem dX3_resize_16 : decode cX3_resize 16 = .ok (.iload_n 3, 1) := by decide +kernel
theorem dX3_resize_17 : decode cX3_resize 17 = .ok (.iconst (-1), 1) := by decide +kernel
theorem dX3_resize_18 : decode cX3_resize 18 = .ok (.iastore, 1) := by decide +kernel
theorem dX3_resize_19 : decode cX3_resize 19 = .ok (.iinc 3 1, 3) := by decide +kernel
theorem dX3_resize_22 : decode cX3_resize 22 = .ok (.goto (-15), 3) := by decide +kernel
theorem dX3_resize_25 : decode cX3_resize 25 = .ok (.aload_n 0, 1) := by decide +kernel
theorem dX3_resize_26 : decode cX3_resize 26 = .ok (.iload_n 1, 1) := by decide +kernel
theorem dX3_resize_27 : decode cX3_resize 27 = .ok (.putfield 19, 3) := by decide +kernel
theorem dX3_resize_30 : decode cX3_resize 30 = .ok (.iload_n 2, 1) := by decide +kernel
theorem dX3_resize_31 : decode cX3_resize 31 = .ok (.ireturn, 1) := by decide +kernel
theorem dX3_hasPlace_0 : decode cX3_hasPlace 0 = .ok (.iload_n 1, 1) := by decide +kernel
theorem dX3_hasPlace_1 : decode cX3_hasPlace 1 = .ok (.ifCond .lt 15, 3) := by decide +kernel
theorem dX3_hasPlace_4 : decode cX3_hasPlace 4 = .ok (.iload_n 1, 1) := by decide +kernel
theorem dX3_hasPlace_5 : decode cX3_hasPlace 5 = .ok (.aload_n 0, 1) := by decide +kernel
theorem dX3_hasPlace_6 : decode cX3_hasPlace 6 = .ok (.getfield 19, 3) := by decide +kernel
theorem dX3_hasPlace_9 : decode cX3_hasPlace 9 = .ok (.if_icmp .ge 7, 3) := by decide +kernel
theorem dX3_hasPlace_12 : decode cX3_hasPlace 12 = .ok (.iconst 1, 1) := by decide +kernel
theorem dX3_hasPlace_13 : decode cX3_hasPlace 13 = .ok (.goto 4, 3) := by decide +kernel
theorem dX3_hasPlace_16 : decode cX3_hasPlace 16 = .ok (.iconst 0, 1) := by decide +kernel
theorem dX3_hasPlace_17 : decode cX3_hasPlace 17 = .ok (.ireturn, 1) := by decide +kernel
theorem dX3_put_0 : decode cX3_put 0 = .ok (.aload_n 0, 1) := by decide +kernel
theorem dX3_put_1 : decode cX3_put 1 = .ok (.getfield 9, 3) := by decide +kernel
theorem dX3_put_4 : decode cX3_put 4 = .ok (.iload_n 1, 1) := by decide +kernel
theorem dX3_put_5 : decode cX3_put 5 = .ok (.iaload, 1) := by decide +kernel
theorem dX3_put_6 : decode cX3_put 6 = .ok (.istore_n 3, 1) := by decide +kernel
theorem dX3_put_7 : decode cX3_put 7 = .ok (.aload_n 0, 1) := by decide +kernel
theorem dX3_put_8 : decode cX3_put 8 = .ok (.getfield 9, 3) := by decide +kernel
theorem dX3_put_11 : decode cX3_put 11 = .ok (.iload_n 1, 1) := by decide +kernel
theorem dX3_put_12 : decode cX3_put 12 = .ok (.iload_n 2, 1) := by decide +kernel
theorem dX3_put_13 : decode cX3_put 13 = .ok (.iastore, 1) := by decide +kernel
theorem dX3_put_14 : decode cX3_put 14 = .ok (.iload_n 3, 1) := by decide +kernel
theorem dX3_put_15 : decode cX3_put 15 = .ok (.ireturn, 1) := by decide +kernel
theorem dX3_refusal_0 : decode cX3_refusal 0 = .ok (.iload_n 1, 1) := by decide +kernel
theorem dX3_refusal_1 : decode cX3_refusal 1 = .ok (.iconst 1, 1) := by decide +kernel
theorem dX3_refusal_2 : decode cX3_refusal 2 = .ok (.if_icmp .lt 11, 3) := by decide +kernel
theorem dX3_refusal_5 : decode cX3_refusal 5 = .ok (.iload_n 1, 1) := by decide +kernel
theorem dX3_refusal_6 : decode cX3_refusal 6 = .ok (.aload_n 0, 1) := by decide +kernel
theorem dX3_refusal_7 : decode cX3_refusal 7 = .ok (.getfield 19, 3) := by decide +kernel
theorem dX3_refusal_10 : decode cX3_refusal 10 = .ok (.if_icmp .le 6, 3) := by decide +kernel
theorem dX3_refusal_13 : decode cX3_refusal 13 = .ok (.bipush (-2), 2) := by decide +kernel
theorem dX3_refusal_15 : decode cX3_refusal 15 = .ok (.ireturn, 1) := by decide +kernel
theorem dX3_refusal_16 : decode cX3_refusal 16 = .ok (.iconst 0, 1) := by decide +kernel
theorem dX3_refusal_17 : decode cX3_refusal 17 = .ok (.istore_n 2, 1) := by decide +kernel
theorem dX3_refusal_18 : decode cX3_refusal 18 = .ok (.iload_n 2, 1) := by decide +kernel
theorem dX3_refusal_19 : decode cX3_refusal 19 = .ok (.iload_n 1, 1) := by decide +kernel
theorem dX3_refusal_20 : decode cX3_refusal 20 = .ok (.if_icmp .ge 22, 3) := by decide +kernel
theorem dX3_refusal_23 : decode cX3_refusal 23 = .ok (.aload_n 0, 1) := by decide +kernel
theorem dX3_refusal_24 : decode cX3_refusal 24 = .ok (.getfield 9, 3) := by decide +kernel
theorem dX3_refusal_27 : decode cX3_refusal 27 = .ok (.iload_n 2, 1) := by decide +kernel
theorem dX3_refusal_28 : decode cX3_refusal 28 = .ok (.iaload, 1) := by decide +kernel
theorem dX3_refusal_29 : decode cX3_refusal 29 = .ok (.iconst (-1), 1) := by decide +kernel
theorem dX3_refusal_30 : decode cX3_refusal 30 = .ok (.if_icmp .ne 6, 3) := by decide +kernel
theorem dX3_refusal_33 : decode cX3_refusal 33 = .ok (.bipush (-4), 2) := by decide +kernel
theorem dX3_refusal_35 : decode cX3_refusal 35 = .ok (.ireturn, 1) := by decide +kernel
theorem dX3_refusal_36 : decode cX3_refusal 36 = .ok (.iinc 2 1, 3) := by decide +kernel
theorem dX3_refusal_39 : decode cX3_refusal 39 = .ok (.goto (-21), 3) := by decide +kernel
theorem dX3_refusal_42 : decode cX3_refusal 42 = .ok (.iconst 0, 1) := by decide +kernel
theorem dX3_refusal_43 : decode cX3_refusal 43 = .ok (.ireturn, 1) := by decide +kernel
theorem dX3_commonSide_0 : decode cX3_commonSide 0 = .ok (.aload_n 0, 1) := by decide +kernel
theorem dX3_commonSide_1 : decode cX3_commonSide 1 = .ok (.getfield 15, 3) := by decide +kernel
theorem dX3_commonSide_4 : decode cX3_commonSide 4 = .ok (.aload_n 0, 1) := by decide +kernel
theorem dX3_commonSide_5 : decode cX3_commonSide 5 = .ok (.getfield 9, 3) := by decide +kernel
theorem dX3_commonSide_8 : decode cX3_commonSide 8 = .ok (.iconst 0, 1) := by decide +kernel
theorem dX3_commonSide_9 : decode cX3_commonSide 9 = .ok (.iaload, 1) := by decide +kernel
theorem dX3_commonSide_10 : decode cX3_commonSide 10 = .ok (.aload_n 0, 1) := by decide +kernel
theorem dX3_commonSide_11 : decode cX3_commonSide 11 = .ok (.getfield 9, 3) := by decide +kernel
theorem dX3_commonSide_14 : decode cX3_commonSide 14 = .ok (.iconst 1, 1) := by decide +kernel
theorem dX3_commonSide_15 : decode cX3_commonSide 15 = .ok (.iaload, 1) := by decide +kernel
theorem dX3_commonSide_16 : decode cX3_commonSide 16 = .ok (.aload_n 0, 1) := by decide +kernel
theorem dX3_commonSide_17 : decode cX3_commonSide 17 = .ok (.getfield 9, 3) := by decide +kernel
theorem dX3_commonSide_20 : decode cX3_commonSide 20 = .ok (.iconst 2, 1) := by decide +kernel
theorem dX3_commonSide_21 : decode cX3_commonSide 21 = .ok (.iaload, 1) := by decide +kernel
theorem dX3_commonSide_22 : decode cX3_commonSide 22 = .ok (.invokevirtual 23, 3) := by decide +kernel
theorem dX3_commonSide_25 : decode cX3_commonSide 25 = .ok (.istore_n 2, 1) := by decide +kernel
theorem dX3_commonSide_26 : decode cX3_commonSide 26 = .ok (.iconst 0, 1) := by decide +kernel
theorem dX3_commonSide_27 : decode cX3_commonSide 27 = .ok (.istore_n 3, 1) := by decide +kernel
theorem dX3_commonSide_28 : decode cX3_commonSide 28 = .ok (.iload_n 3, 1) := by decide +kernel
theorem dX3_commonSide_29 : decode cX3_commonSide 29 = .ok (.iload_n 1, 1) := by decide +kernel
theorem dX3_commonSide_30 : decode cX3_commonSide 30 = .ok (.if_icmp .ge 89, 3) := by decide +kernel
theorem dX3_commonSide_33 : decode cX3_commonSide 33 = .ok (.iload_n 3, 1) := by decide +kernel
theorem dX3_commonSide_34 : decode cX3_commonSide 34 = .ok (.iload_n 1, 1) := by decide +kernel
theorem dX3_commonSide_35 : decode cX3_commonSide 35 = .ok (.invokestatic 29, 3) := by decide +kernel
theorem dX3_commonSide_38 : decode cX3_commonSide 38 = .ok (.istore 4, 2) := by decide +kernel
theorem dX3_commonSide_40 : decode cX3_commonSide 40 = .ok (.iconst 0, 1) := by decide +kernel
theorem dX3_commonSide_41 : decode cX3_commonSide 41 = .ok (.istore 5, 2) := by decide +kernel
theorem dX3_commonSide_43 : decode cX3_commonSide 43 = .ok (.iload 5, 2) := by decide +kernel
theorem dX3_commonSide_45 : decode cX3_commonSide 45 = .ok (.iload_n 1, 1) := by decide +kernel
theorem dX3_commonSide_46 : decode cX3_commonSide 46 = .ok (.if_icmp .ge 67, 3) := by decide +kernel
theorem dX3_commonSide_49 : decode cX3_commonSide 49 = .ok (.iload 5, 2) := by decide +kernel
theorem dX3_commonSide_51 : decode cX3_commonSide 51 = .ok (.iload_n 3, 1) := by decide +kernel
theorem dX3_commonSide_52 : decode cX3_commonSide 52 = .ok (.if_icmp .eq 14, 3) := by decide +kernel
theorem dX3_commonSide_55 : decode cX3_commonSide 55 = .ok (.iload 5, 2) := by decide +kernel
theorem dX3_commonSide_57 : decode cX3_commonSide 57 = .ok (.iload 4, 2) := by decide +kernel
theorem dX3_commonSide_59 : decode cX3_commonSide 59 = .ok (.if_icmp .eq 7, 3) := by decide +kernel
theorem dX3_commonSide_62 : decode cX3_commonSide 62 = .ok (.iconst 1, 1) := by decide +kernel
theorem dX3_commonSide_63 : decode cX3_commonSide 63 = .ok (.goto 4, 3) := by decide +kernel
theorem dX3_commonSide_66 : decode cX3_commonSide 66 = .ok (.iconst 0, 1) := by decide +kernel
theorem dX3_commonSide_67 : decode cX3_commonSide 67 = .ok (.istore 6, 2) := by decide +kernel
theorem dX3_commonSide_69 : decode cX3_commonSide 69 = .ok (.iload 6, 2) := by decide +kernel
theorem dX3_commonSide_71 : decode cX3_commonSide 71 = .ok (.ifCond .eq 36, 3) := by decide +kernel
theorem dX3_commonSide_74 : decode cX3_commonSide 74 = .ok (.aload_n 0, 1) := by decide +kernel
theorem dX3_commonSide_75 : decode cX3_commonSide 75 = .ok (.getfield 15, 3) := by decide +kernel
theorem dX3_commonSide_78 : decode cX3_commonSide 78 = .ok (.aload_n 0, 1) := by decide +kernel
theorem dX3_commonSide_79 : decode cX3_commonSide 79 = .ok (.getfield 9, 3) := by decide +kernel
theorem dX3_commonSide_82 : decode cX3_commonSide 82 = .ok (.iload_n 3, 1) := by decide +kernel
theorem dX3_commonSide_83 : decode cX3_commonSide 83 = .ok (.iaload, 1) := by decide +kernel
theorem dX3_commonSide_84 : decode cX3_commonSide 84 = .ok (.aload_n 0, 1) := by decide +kernel
theorem dX3_commonSide_85 : decode cX3_commonSide 85 = .ok (.getfield 9, 3) := by decide +kernel
theorem dX3_commonSide_88 : decode cX3_commonSide 88 = .ok (.iload 4, 2) := by decide +kernel
theorem dX3_commonSide_90 : decode cX3_commonSide 90 = .ok (.iaload, 1) := by decide +kernel
theorem dX3_commonSide_91 : decode cX3_commonSide 91 = .ok (.aload_n 0, 1) := by decide +kernel
theorem dX3_commonSide_92 : decode cX3_commonSide 92 = .ok (.getfield 9, 3) := by decide +kernel
theorem dX3_commonSide_95 : decode cX3_commonSide 95 = .ok (.iload 5, 2) := by decide +kernel
theorem dX3_commonSide_97 : decode cX3_commonSide 97 = .ok (.iaload, 1) := by decide +kernel
theorem dX3_commonSide_98 : decode cX3_commonSide 98 = .ok (.invokevirtual 23, 3) := by decide +kernel
theorem dX3_commonSide_101 : decode cX3_commonSide 101 = .ok (.iload_n 2, 1) := by decide +kernel
theorem dX3_commonSide_102 : decode cX3_commonSide 102 = .ok (.if_icmp .eq 5, 3) := by decide +kernel
theorem dX3_commonSide_105 : decode cX3_commonSide 105 = .ok (.iconst 0, 1) := by decide +kernel
theorem dX3_commonSide_106 : decode cX3_commonSide 106 = .ok (.ireturn, 1) := by decide +kernel
theorem dX3_commonSide_107 : decode cX3_commonSide 107 = .ok (.iinc 5 1, 3) := by decide +kernel
theorem dX3_commonSide_110 : decode cX3_commonSide 110 = .ok (.goto (-67), 3) := by decide +kernel
theorem dX3_commonSide_113 : decode cX3_commonSide 113 = .ok (.iinc 3 1, 3) := by decide +kernel
theorem dX3_commonSide_116 : decode cX3_commonSide 116 = .ok (.goto (-88), 3) := by decide +kernel
theorem dX3_commonSide_119 : decode cX3_commonSide 119 = .ok (.iload_n 2, 1) := by decide +kernel
theorem dX3_commonSide_120 : decode cX3_commonSide 120 = .ok (.ireturn, 1) := by decide +kernel
theorem dX3_onAnyEdge_0 : decode cX3_onAnyEdge 0 = .ok (.iconst 0, 1) := by decide +kernel
theorem dX3_onAnyEdge_1 : decode cX3_onAnyEdge 1 = .ok (.istore_n 3, 1) := by decide +kernel
theorem dX3_onAnyEdge_2 : decode cX3_onAnyEdge 2 = .ok (.iload_n 3, 1) := by decide +kernel
theorem dX3_onAnyEdge_3 : decode cX3_onAnyEdge 3 = .ok (.iload_n 1, 1) := by decide +kernel
theorem dX3_onAnyEdge_4 : decode cX3_onAnyEdge 4 = .ok (.if_icmp .ge 38, 3) := by decide +kernel
theorem dX3_onAnyEdge_7 : decode cX3_onAnyEdge 7 = .ok (.aload_n 0, 1) := by decide +kernel
theorem dX3_onAnyEdge_8 : decode cX3_onAnyEdge 8 = .ok (.getfield 15, 3) := by decide +kernel
theorem dX3_onAnyEdge_11 : decode cX3_onAnyEdge 11 = .ok (.aload_n 0, 1) := by decide +kernel
theorem dX3_onAnyEdge_12 : decode cX3_onAnyEdge 12 = .ok (.getfield 9, 3) := by decide +kernel
theorem dX3_onAnyEdge_15 : decode cX3_onAnyEdge 15 = .ok (.iload_n 3, 1) := by decide +kernel
theorem dX3_onAnyEdge_16 : decode cX3_onAnyEdge 16 = .ok (.iaload, 1) := by decide +kernel
theorem dX3_onAnyEdge_17 : decode cX3_onAnyEdge 17 = .ok (.aload_n 0, 1) := by decide +kernel
theorem dX3_onAnyEdge_18 : decode cX3_onAnyEdge 18 = .ok (.getfield 9, 3) := by decide +kernel
theorem dX3_onAnyEdge_21 : decode cX3_onAnyEdge 21 = .ok (.iload_n 3, 1) := by decide +kernel
theorem dX3_onAnyEdge_22 : decode cX3_onAnyEdge 22 = .ok (.iload_n 1, 1) := by decide +kernel
theorem dX3_onAnyEdge_23 : decode cX3_onAnyEdge 23 = .ok (.invokestatic 29, 3) := by decide +kernel
theorem dX3_onAnyEdge_26 : decode cX3_onAnyEdge 26 = .ok (.iaload, 1) := by decide +kernel
theorem dX3_onAnyEdge_27 : decode cX3_onAnyEdge 27 = .ok (.iload_n 2, 1) := by decide +kernel
theorem dX3_onAnyEdge_28 : decode cX3_onAnyEdge 28 = .ok (.invokevirtual 33, 3) := by decide +kernel
theorem dX3_onAnyEdge_31 : decode cX3_onAnyEdge 31 = .ok (.ifCond .eq 5, 3) := by decide +kernel
theorem dX3_onAnyEdge_34 : decode cX3_onAnyEdge 34 = .ok (.iconst 1, 1) := by decide +kernel
theorem dX3_onAnyEdge_35 : decode cX3_onAnyEdge 35 = .ok (.ireturn, 1) := by decide +kernel
theorem dX3_onAnyEdge_36 : decode cX3_onAnyEdge 36 = .ok (.iinc 3 1, 3) := by decide +kernel
theorem dX3_onAnyEdge_39 : decode cX3_onAnyEdge 39 = .ok (.goto (-37), 3) := by decide +kernel
theorem dX3_onAnyEdge_42 : decode cX3_onAnyEdge 42 = .ok (.iconst 0, 1) := by decide +kernel
theorem dX3_onAnyEdge_43 : decode cX3_onAnyEdge 43 = .ok (.ireturn, 1) := by decide +kernel
theorem dX3_rises_0 : decode cX3_rises 0 = .ok (.iconst 0, 1) := by decide +kernel
theorem dX3_rises_1 : decode cX3_rises 1 = .ok (.istore_n 3, 1) := by decide +kernel
theorem dX3_rises_2 : decode cX3_rises 2 = .ok (.iconst 0, 1) := by decide +kernel
theorem dX3_rises_3 : decode cX3_rises 3 = .ok (.istore 4, 2) := by decide +kernel
theorem dX3_rises_5 : decode cX3_rises 5 = .ok (.iload 4, 2) := by decide +kernel
theorem dX3_rises_7 : decode cX3_rises 7 = .ok (.iload_n 1, 1) := by decide +kernel
theorem dX3_rises_8 : decode cX3_rises 8 = .ok (.if_icmp .ge 38, 3) := by decide +kernel
theorem dX3_rises_11 : decode cX3_rises 11 = .ok (.aload_n 0, 1) := by decide +kernel
theorem dX3_rises_12 : decode cX3_rises 12 = .ok (.aload_n 0, 1) := by decide +kernel
theorem dX3_rises_13 : decode cX3_rises 13 = .ok (.getfield 9, 3) := by decide +kernel
theorem dX3_rises_16 : decode cX3_rises 16 = .ok (.iload 4, 2) := by decide +kernel
theorem dX3_rises_18 : decode cX3_rises 18 = .ok (.iaload, 1) := by decide +kernel
theorem dX3_rises_19 : decode cX3_rises 19 = .ok (.aload_n 0, 1) := by decide +kernel
theorem dX3_rises_20 : decode cX3_rises 20 = .ok (.getfield 9, 3) := by decide +kernel
theorem dX3_rises_23 : decode cX3_rises 23 = .ok (.iload 4, 2) := by decide +kernel
theorem dX3_rises_25 : decode cX3_rises 25 = .ok (.iload_n 1, 1) := by decide +kernel
theorem dX3_rises_26 : decode cX3_rises 26 = .ok (.invokestatic 29, 3) := by decide +kernel
theorem dX3_rises_29 : decode cX3_rises 29 = .ok (.iaload, 1) := by decide +kernel
theorem dX3_rises_30 : decode cX3_rises 30 = .ok (.iload_n 2, 1) := by decide +kernel
theorem dX3_rises_31 : decode cX3_rises 31 = .ok (.invokevirtual 37, 3) := by decide +kernel
theorem dX3_rises_34 : decode cX3_rises 34 = .ok (.ifCond .eq 6, 3) := by decide +kernel
theorem dX3_rises_37 : decode cX3_rises 37 = .ok (.iinc 3 1, 3) := by decide +kernel
theorem dX3_rises_40 : decode cX3_rises 40 = .ok (.iinc 4 1, 3) := by decide +kernel
theorem dX3_rises_43 : decode cX3_rises 43 = .ok (.goto (-38), 3) := by decide +kernel
theorem dX3_rises_46 : decode cX3_rises 46 = .ok (.iload_n 3, 1) := by decide +kernel
theorem dX3_rises_47 : decode cX3_rises 47 = .ok (.ireturn, 1) := by decide +kernel
theorem dX3_falls_0 : decode cX3_falls 0 = .ok (.iconst 0, 1) := by decide +kernel
theorem dX3_falls_1 : decode cX3_falls 1 = .ok (.istore_n 3, 1) := by decide +kernel
theorem dX3_falls_2 : decode cX3_falls 2 = .ok (.iconst 0, 1) := by decide +kernel
theorem dX3_falls_3 : decode cX3_falls 3 = .ok (.istore 4, 2) := by decide +kernel
theorem dX3_falls_5 : decode cX3_falls 5 = .ok (.iload 4, 2) := by decide +kernel
theorem dX3_falls_7 : decode cX3_falls 7 = .ok (.iload_n 1, 1) := by decide +kernel
theorem dX3_falls_8 : decode cX3_falls 8 = .ok (.if_icmp .ge 38, 3) := by decide +kernel
theorem dX3_falls_11 : decode cX3_falls 11 = .ok (.aload_n 0, 1) := by decide +kernel
theorem dX3_falls_12 : decode cX3_falls 12 = .ok (.aload_n 0, 1) := by decide +kernel
theorem dX3_falls_13 : decode cX3_falls 13 = .ok (.getfield 9, 3) := by decide +kernel
theorem dX3_falls_16 : decode cX3_falls 16 = .ok (.iload 4, 2) := by decide +kernel
theorem dX3_falls_18 : decode cX3_falls 18 = .ok (.iload_n 1, 1) := by decide +kernel
theorem dX3_falls_19 : decode cX3_falls 19 = .ok (.invokestatic 29, 3) := by decide +kernel
theorem dX3_falls_22 : decode cX3_falls 22 = .ok (.iaload, 1) := by decide +kernel
theorem dX3_falls_23 : decode cX3_falls 23 = .ok (.aload_n 0, 1) := by decide +kernel
theorem dX3_falls_24 : decode cX3_falls 24 = .ok (.getfield 9, 3) := by decide +kernel
theorem dX3_falls_27 : decode cX3_falls 27 = .ok (.iload 4, 2) := by decide +kernel
theorem dX3_falls_29 : decode cX3_falls 29 = .ok (.iaload, 1) := by decide +kernel
theorem dX3_falls_30 : decode cX3_falls 30 = .ok (.iload_n 2, 1) := by decide +kernel
theorem dX3_falls_31 : decode cX3_falls 31 = .ok (.invokevirtual 37, 3) := by decide +kernel
theorem dX3_falls_34 : decode cX3_falls 34 = .ok (.ifCond .eq 6, 3) := by decide +kernel
theorem dX3_falls_37 : decode cX3_falls 37 = .ok (.iinc 3 1, 3) := by decide +kernel
theorem dX3_falls_40 : decode cX3_falls 40 = .ok (.iinc 4 1, 3) := by decide +kernel
theorem dX3_falls_43 : decode cX3_falls 43 = .ok (.goto (-38), 3) := by decide +kernel
theorem dX3_falls_46 : decode cX3_falls 46 = .ok (.iload_n 3, 1) := by decide +kernel
theorem dX3_falls_47 : decode cX3_falls 47 = .ok (.ireturn, 1) := by decide +kernel
theorem dX3_climbsPast_0 : decode cX3_climbsPast 0 = .ok (.aload_n 0, 1) := by decide +kernel
theorem dX3_climbsPast_1 : decode cX3_climbsPast 1 = .ok (.getfield 15, 3) := by decide +kernel
theorem dX3_climbsPast_4 : decode cX3_climbsPast 4 = .ok (.getfield 40, 3) := by decide +kernel
theorem dX3_climbsPast_7 : decode cX3_climbsPast 7 = .ok (.iload_n 1, 1) := by decide +kernel
theorem dX3_climbsPast_8 : decode cX3_climbsPast 8 = .ok (.iaload, 1) := by decide +kernel
theorem dX3_climbsPast_9 : decode cX3_climbsPast 9 = .ok (.aload_n 0, 1) := by decide +kernel
theorem dX3_climbsPast_10 : decode cX3_climbsPast 10 = .ok (.getfield 15, 3) := by decide +kernel
theorem dX3_climbsPast_13 : decode cX3_climbsPast 13 = .ok (.getfield 40, 3) := by decide +kernel
theorem dX3_climbsPast_16 : decode cX3_climbsPast 16 = .ok (.iload_n 3, 1) := by decide +kernel
theorem dX3_climbsPast_17 : decode cX3_climbsPast 17 = .ok (.iaload, 1) := by decide +kernel
theorem dX3_climbsPast_18 : decode cX3_climbsPast 18 = .ok (.if_icmp .gt 28, 3) := by decide +kernel
theorem dX3_climbsPast_21 : decode cX3_climbsPast 21 = .ok (.aload_n 0, 1) := by decide +kernel
theorem dX3_climbsPast_22 : decode cX3_climbsPast 22 = .ok (.getfield 15, 3) := by decide +kernel
theorem dX3_climbsPast_25 : decode cX3_climbsPast 25 = .ok (.getfield 40, 3) := by decide +kernel
theorem dX3_climbsPast_28 : decode cX3_climbsPast 28 = .ok (.iload_n 2, 1) := by decide +kernel
theorem dX3_climbsPast_29 : decode cX3_climbsPast 29 = .ok (.iaload, 1) := by decide +kernel
theorem dX3_climbsPast_30 : decode cX3_climbsPast 30 = .ok (.aload_n 0, 1) := by decide +kernel
theorem dX3_climbsPast_31 : decode cX3_climbsPast 31 = .ok (.getfield 15, 3) := by decide +kernel
theorem dX3_climbsPast_34 : decode cX3_climbsPast 34 = .ok (.getfield 40, 3) := by decide +kernel
theorem dX3_climbsPast_37 : decode cX3_climbsPast 37 = .ok (.iload_n 3, 1) := by decide +kernel
theorem dX3_climbsPast_38 : decode cX3_climbsPast 38 = .ok (.iaload, 1) := by decide +kernel
theorem dX3_climbsPast_39 : decode cX3_climbsPast 39 = .ok (.if_icmp .le 7, 3) := by decide +kernel
theorem dX3_climbsPast_42 : decode cX3_climbsPast 42 = .ok (.iconst 1, 1) := by decide +kernel
theorem dX3_climbsPast_43 : decode cX3_climbsPast 43 = .ok (.goto 4, 3) := by decide +kernel
theorem dX3_climbsPast_46 : decode cX3_climbsPast 46 = .ok (.iconst 0, 1) := by decide +kernel
theorem dX3_climbsPast_47 : decode cX3_climbsPast 47 = .ok (.istore 4, 2) := by decide +kernel
theorem dX3_climbsPast_49 : decode cX3_climbsPast 49 = .ok (.iload 4, 2) := by decide +kernel
theorem dX3_climbsPast_51 : decode cX3_climbsPast 51 = .ok (.ifCond .eq 21, 3) := by decide +kernel
theorem dX3_climbsPast_54 : decode cX3_climbsPast 54 = .ok (.aload_n 0, 1) := by decide +kernel
theorem dX3_climbsPast_55 : decode cX3_climbsPast 55 = .ok (.getfield 15, 3) := by decide +kernel
theorem dX3_climbsPast_58 : decode cX3_climbsPast 58 = .ok (.iload_n 1, 1) := by decide +kernel
theorem dX3_climbsPast_59 : decode cX3_climbsPast 59 = .ok (.iload_n 2, 1) := by decide +kernel
theorem dX3_climbsPast_60 : decode cX3_climbsPast 60 = .ok (.iload_n 3, 1) := by decide +kernel
theorem dX3_climbsPast_61 : decode cX3_climbsPast 61 = .ok (.invokevirtual 23, 3) := by decide +kernel
theorem dX3_climbsPast_64 : decode cX3_climbsPast 64 = .ok (.iconst 1, 1) := by decide +kernel
theorem dX3_climbsPast_65 : decode cX3_climbsPast 65 = .ok (.if_icmp .ne 7, 3) := by decide +kernel
theorem dX3_climbsPast_68 : decode cX3_climbsPast 68 = .ok (.iconst 1, 1) := by decide +kernel
theorem dX3_climbsPast_69 : decode cX3_climbsPast 69 = .ok (.goto 4, 3) := by decide +kernel
theorem dX3_climbsPast_72 : decode cX3_climbsPast 72 = .ok (.iconst 0, 1) := by decide +kernel
theorem dX3_climbsPast_73 : decode cX3_climbsPast 73 = .ok (.ireturn, 1) := by decide +kernel
theorem dX3_nearestBits_0 : decode cX3_nearestBits 0 = .ok (.aload_n 0, 1) := by decide +kernel
theorem dX3_nearestBits_1 : decode cX3_nearestBits 1 = .ok (.getfield 15, 3) := by decide +kernel
theorem dX3_nearestBits_4 : decode cX3_nearestBits 4 = .ok (.iload_n 1, 1) := by decide +kernel
theorem dX3_nearestBits_5 : decode cX3_nearestBits 5 = .ok (.aload_n 0, 1) := by decide +kernel
theorem dX3_nearestBits_6 : decode cX3_nearestBits 6 = .ok (.getfield 9, 3) := by decide +kernel
theorem dX3_nearestBits_9 : decode cX3_nearestBits 9 = .ok (.iconst 0, 1) := by decide +kernel
theorem dX3_nearestBits_10 : decode cX3_nearestBits 10 = .ok (.iaload, 1) := by decide +kernel
theorem dX3_nearestBits_11 : decode cX3_nearestBits 11 = .ok (.invokevirtual 43, 3) := by decide +kernel
theorem dX3_nearestBits_14 : decode cX3_nearestBits 14 = .ok (.lstore_n 3, 1) := by decide +kernel
theorem dX3_nearestBits_15 : decode cX3_nearestBits 15 = .ok (.iconst 0, 1) := by decide +kernel
theorem dX3_nearestBits_16 : decode cX3_nearestBits 16 = .ok (.istore 5, 2) := by decide +kernel
theorem dX3_nearestBits_18 : decode cX3_nearestBits 18 = .ok (.iconst 0, 1) := by decide +kernel
theorem dX3_nearestBits_19 : decode cX3_nearestBits 19 = .ok (.istore 6, 2) := by decide +kernel
theorem dX3_nearestBits_21 : decode cX3_nearestBits 21 = .ok (.iload 6, 2) := by decide +kernel
theorem dX3_nearestBits_23 : decode cX3_nearestBits 23 = .ok (.iload_n 2, 1) := by decide +kernel
theorem dX3_nearestBits_24 : decode cX3_nearestBits 24 = .ok (.if_icmp .ge 55, 3) := by decide +kernel
theorem dX3_nearestBits_27 : decode cX3_nearestBits 27 = .ok (.aload_n 0, 1) := by decide +kernel
theorem dX3_nearestBits_28 : decode cX3_nearestBits 28 = .ok (.getfield 15, 3) := by decide +kernel
theorem dX3_nearestBits_31 : decode cX3_nearestBits 31 = .ok (.iload_n 1, 1) := by decide +kernel
theorem dX3_nearestBits_32 : decode cX3_nearestBits 32 = .ok (.aload_n 0, 1) := by decide +kernel
theorem dX3_nearestBits_33 : decode cX3_nearestBits 33 = .ok (.getfield 9, 3) := by decide +kernel
theorem dX3_nearestBits_36 : decode cX3_nearestBits 36 = .ok (.iload 6, 2) := by decide +kernel
theorem dX3_nearestBits_38 : decode cX3_nearestBits 38 = .ok (.iaload, 1) := by decide +kernel
theorem dX3_nearestBits_39 : decode cX3_nearestBits 39 = .ok (.invokevirtual 43, 3) := by decide +kernel
theorem dX3_nearestBits_42 : decode cX3_nearestBits 42 = .ok (.lstore 7, 2) := by decide +kernel
theorem dX3_nearestBits_44 : decode cX3_nearestBits 44 = .ok (.lload 7, 2) := by decide +kernel
theorem dX3_nearestBits_46 : decode cX3_nearestBits 46 = .ok (.lload_n 3, 1) := by decide +kernel
theorem dX3_nearestBits_47 : decode cX3_nearestBits 47 = .ok (.lcmp, 1) := by decide +kernel
theorem dX3_nearestBits_48 : decode cX3_nearestBits 48 = .ok (.ifCond .ge 9, 3) := by decide +kernel
theorem dX3_nearestBits_51 : decode cX3_nearestBits 51 = .ok (.lload 7, 2) := by decide +kernel
theorem dX3_nearestBits_53 : decode cX3_nearestBits 53 = .ok (.lstore_n 3, 1) := by decide +kernel
theorem dX3_nearestBits_54 : decode cX3_nearestBits 54 = .ok (.iconst 0, 1) := by decide +kernel
theorem dX3_nearestBits_55 : decode cX3_nearestBits 55 = .ok (.istore 5, 2) := by decide +kernel
theorem dX3_nearestBits_57 : decode cX3_nearestBits 57 = .ok (.lload 7, 2) := by decide +kernel
theorem dX3_nearestBits_59 : decode cX3_nearestBits 59 = .ok (.lload_n 3, 1) := by decide +kernel
theorem dX3_nearestBits_60 : decode cX3_nearestBits 60 = .ok (.lcmp, 1) := by decide +kernel
theorem dX3_nearestBits_61 : decode cX3_nearestBits 61 = .ok (.ifCond .ne 12, 3) := by decide +kernel
theorem dX3_nearestBits_64 : decode cX3_nearestBits 64 = .ok (.iload 5, 2) := by decide +kernel
theorem dX3_nearestBits_66 : decode cX3_nearestBits 66 = .ok (.iconst 1, 1) := by decide +kernel
theorem dX3_nearestBits_67 : decode cX3_nearestBits 67 = .ok (.iload 6, 2) := by decide +kernel
theorem dX3_nearestBits_69 : decode cX3_nearestBits 69 = .ok (.ishl, 1) := by decide +kernel
theorem dX3_nearestBits_70 : decode cX3_nearestBits 70 = .ok (.ior, 1) := by decide +kernel
theorem dX3_nearestBits_71 : decode cX3_nearestBits 71 = .ok (.istore 5, 2) := by decide +kernel
theorem dX3_nearestBits_73 : decode cX3_nearestBits 73 = .ok (.iinc 6 1, 3) := by decide +kernel
theorem dX3_nearestBits_76 : decode cX3_nearestBits 76 = .ok (.goto (-55), 3) := by decide +kernel
theorem dX3_nearestBits_79 : decode cX3_nearestBits 79 = .ok (.iload 5, 2) := by decide +kernel
theorem dX3_nearestBits_81 : decode cX3_nearestBits 81 = .ok (.ireturn, 1) := by decide +kernel
theorem dX3_placeOfRank_0 : decode cX3_placeOfRank 0 = .ok (.iconst 0, 1) := by decide +kernel
theorem dX3_placeOfRank_1 : decode cX3_placeOfRank 1 = .ok (.istore 4, 2) := by decide +kernel
theorem dX3_placeOfRank_3 : decode cX3_placeOfRank 3 = .ok (.iload 4, 2) := by decide +kernel
theorem dX3_placeOfRank_5 : decode cX3_placeOfRank 5 = .ok (.iload_n 1, 1) := by decide +kernel
theorem dX3_placeOfRank_6 : decode cX3_placeOfRank 6 = .ok (.if_icmp .ge 24, 3) := by decide +kernel
theorem dX3_placeOfRank_9 : decode cX3_placeOfRank 9 = .ok (.aload_n 0, 1) := by decide +kernel
theorem dX3_placeOfRank_10 : decode cX3_placeOfRank 10 = .ok (.iload_n 1, 1) := by decide +kernel
theorem dX3_placeOfRank_11 : decode cX3_placeOfRank 11 = .ok (.iload 4, 2) := by decide +kernel
theorem dX3_placeOfRank_13 : decode cX3_placeOfRank 13 = .ok (.iload_n 3, 1) := by decide +kernel
theorem dX3_placeOfRank_14 : decode cX3_placeOfRank 14 = .ok (.invokevirtual 47, 3) := by decide +kernel
theorem dX3_placeOfRank_17 : decode cX3_placeOfRank 17 = .ok (.iload_n 2, 1) := by decide +kernel
theorem dX3_placeOfRank_18 : decode cX3_placeOfRank 18 = .ok (.if_icmp .ne 6, 3) := by decide +kernel
theorem dX3_placeOfRank_21 : decode cX3_placeOfRank 21 = .ok (.iload 4, 2) := by decide +kernel
theorem dX3_placeOfRank_23 : decode cX3_placeOfRank 23 = .ok (.ireturn, 1) := by decide +kernel
theorem dX3_placeOfRank_24 : decode cX3_placeOfRank 24 = .ok (.iinc 4 1, 3) := by decide +kernel
theorem dX3_placeOfRank_27 : decode cX3_placeOfRank 27 = .ok (.goto (-24), 3) := by decide +kernel
theorem dX3_placeOfRank_30 : decode cX3_placeOfRank 30 = .ok (.bipush (-2), 2) := by decide +kernel
theorem dX3_placeOfRank_32 : decode cX3_placeOfRank 32 = .ok (.ireturn, 1) := by decide +kernel
theorem dX3_howManyBefore_0 : decode cX3_howManyBefore 0 = .ok (.iconst 0, 1) := by decide +kernel
theorem dX3_howManyBefore_1 : decode cX3_howManyBefore 1 = .ok (.istore 4, 2) := by decide +kernel
theorem dX3_howManyBefore_3 : decode cX3_howManyBefore 3 = .ok (.iconst 0, 1) := by decide +kernel
theorem dX3_howManyBefore_4 : decode cX3_howManyBefore 4 = .ok (.istore 5, 2) := by decide +kernel
theorem dX3_howManyBefore_6 : decode cX3_howManyBefore 6 = .ok (.iload 5, 2) := by decide +kernel
theorem dX3_howManyBefore_8 : decode cX3_howManyBefore 8 = .ok (.iload_n 1, 1) := by decide +kernel
theorem dX3_howManyBefore_9 : decode cX3_howManyBefore 9 = .ok (.if_icmp .ge 38, 3) := by decide +kernel
theorem dX3_howManyBefore_12 : decode cX3_howManyBefore 12 = .ok (.aload_n 0, 1) := by decide +kernel
theorem dX3_howManyBefore_13 : decode cX3_howManyBefore 13 = .ok (.iload 5, 2) := by decide +kernel
theorem dX3_howManyBefore_15 : decode cX3_howManyBefore 15 = .ok (.iload_n 2, 1) := by decide +kernel
theorem dX3_howManyBefore_16 : decode cX3_howManyBefore 16 = .ok (.iload_n 3, 1) := by decide +kernel
theorem dX3_howManyBefore_17 : decode cX3_howManyBefore 17 = .ok (.invokevirtual 50, 3) := by decide +kernel
theorem dX3_howManyBefore_20 : decode cX3_howManyBefore 20 = .ok (.istore 6, 2) := by decide +kernel
theorem dX3_howManyBefore_22 : decode cX3_howManyBefore 22 = .ok (.iload 6, 2) := by decide +kernel
theorem dX3_howManyBefore_24 : decode cX3_howManyBefore 24 = .ok (.ifCond .lt 14, 3) := by decide +kernel
theorem dX3_howManyBefore_27 : decode cX3_howManyBefore 27 = .ok (.iload 6, 2) := by decide +kernel
theorem dX3_howManyBefore_29 : decode cX3_howManyBefore 29 = .ok (.ifCond .ne 12, 3) := by decide +kernel
theorem dX3_howManyBefore_32 : decode cX3_howManyBefore 32 = .ok (.iload 5, 2) := by decide +kernel
theorem dX3_howManyBefore_34 : decode cX3_howManyBefore 34 = .ok (.iload_n 2, 1) := by decide +kernel
theorem dX3_howManyBefore_35 : decode cX3_howManyBefore 35 = .ok (.if_icmp .ge 6, 3) := by decide +kernel
theorem dX3_howManyBefore_38 : decode cX3_howManyBefore 38 = .ok (.iinc 4 1, 3) := by decide +kernel
theorem dX3_howManyBefore_41 : decode cX3_howManyBefore 41 = .ok (.iinc 5 1, 3) := by decide +kernel
theorem dX3_howManyBefore_44 : decode cX3_howManyBefore 44 = .ok (.goto (-38), 3) := by decide +kernel
theorem dX3_howManyBefore_47 : decode cX3_howManyBefore 47 = .ok (.iload 4, 2) := by decide +kernel
theorem dX3_howManyBefore_49 : decode cX3_howManyBefore 49 = .ok (.ireturn, 1) := by decide +kernel
theorem dX3_compare_0 : decode cX3_compare 0 = .ok (.iload_n 3, 1) := by decide +kernel
theorem dX3_compare_1 : decode cX3_compare 1 = .ok (.iconst (-1), 1) := by decide +kernel
theorem dX3_compare_2 : decode cX3_compare 2 = .ok (.if_icmp .ne 23, 3) := by decide +kernel
theorem dX3_compare_5 : decode cX3_compare 5 = .ok (.aload_n 0, 1) := by decide +kernel
theorem dX3_compare_6 : decode cX3_compare 6 = .ok (.getfield 15, 3) := by decide +kernel
theorem dX3_compare_9 : decode cX3_compare 9 = .ok (.aload_n 0, 1) := by decide +kernel
theorem dX3_compare_10 : decode cX3_compare 10 = .ok (.getfield 9, 3) := by decide +kernel
theorem dX3_compare_13 : decode cX3_compare 13 = .ok (.iload_n 1, 1) := by decide +kernel
theorem dX3_compare_14 : decode cX3_compare 14 = .ok (.iaload, 1) := by decide +kernel
theorem dX3_compare_15 : decode cX3_compare 15 = .ok (.aload_n 0, 1) := by decide +kernel
theorem dX3_compare_16 : decode cX3_compare 16 = .ok (.getfield 9, 3) := by decide +kernel
theorem dX3_compare_19 : decode cX3_compare 19 = .ok (.iload_n 2, 1) := by decide +kernel
theorem dX3_compare_20 : decode cX3_compare 20 = .ok (.iaload, 1) := by decide +kernel
theorem dX3_compare_21 : decode cX3_compare 21 = .ok (.invokevirtual 53, 3) := by decide +kernel
theorem dX3_compare_24 : decode cX3_compare 24 = .ok (.ireturn, 1) := by decide +kernel
theorem dX3_compare_25 : decode cX3_compare 25 = .ok (.aload_n 0, 1) := by decide +kernel
theorem dX3_compare_26 : decode cX3_compare 26 = .ok (.getfield 15, 3) := by decide +kernel
theorem dX3_compare_29 : decode cX3_compare 29 = .ok (.iload_n 3, 1) := by decide +kernel
theorem dX3_compare_30 : decode cX3_compare 30 = .ok (.aload_n 0, 1) := by decide +kernel
theorem dX3_compare_31 : decode cX3_compare 31 = .ok (.getfield 9, 3) := by decide +kernel
theorem dX3_compare_34 : decode cX3_compare 34 = .ok (.iload_n 1, 1) := by decide +kernel
theorem dX3_compare_35 : decode cX3_compare 35 = .ok (.iaload, 1) := by decide +kernel
theorem dX3_compare_36 : decode cX3_compare 36 = .ok (.aload_n 0, 1) := by decide +kernel
theorem dX3_compare_37 : decode cX3_compare 37 = .ok (.getfield 9, 3) := by decide +kernel
theorem dX3_compare_40 : decode cX3_compare 40 = .ok (.iload_n 2, 1) := by decide +kernel
theorem dX3_compare_41 : decode cX3_compare 41 = .ok (.iaload, 1) := by decide +kernel
theorem dX3_compare_42 : decode cX3_compare 42 = .ok (.invokevirtual 56, 3) := by decide +kernel
theorem dX3_compare_45 : decode cX3_compare 45 = .ok (.ireturn, 1) := by decide +kernel
theorem dX3_doubleArea_0 : decode cX3_doubleArea 0 = .ok (.lconst 0, 1) := by decide +kernel
theorem dX3_doubleArea_1 : decode cX3_doubleArea 1 = .ok (.lstore_n 2, 1) := by decide +kernel
theorem dX3_doubleArea_2 : decode cX3_doubleArea 2 = .ok (.iconst 0, 1) := by decide +kernel
theorem dX3_doubleArea_3 : decode cX3_doubleArea 3 = .ok (.istore 4, 2) := by decide +kernel
theorem dX3_doubleArea_5 : decode cX3_doubleArea 5 = .ok (.iload 4, 2) := by decide +kernel
theorem dX3_doubleArea_7 : decode cX3_doubleArea 7 = .ok (.iload_n 1, 1) := by decide +kernel
theorem dX3_doubleArea_8 : decode cX3_doubleArea 8 = .ok (.if_icmp .ge 81, 3) := by decide +kernel
theorem dX3_doubleArea_11 : decode cX3_doubleArea 11 = .ok (.aload_n 0, 1) := by decide +kernel
theorem dX3_doubleArea_12 : decode cX3_doubleArea 12 = .ok (.getfield 9, 3) := by decide +kernel
theorem dX3_doubleArea_15 : decode cX3_doubleArea 15 = .ok (.iload 4, 2) := by decide +kernel
theorem dX3_doubleArea_17 : decode cX3_doubleArea 17 = .ok (.iaload, 1) := by decide +kernel
theorem dX3_doubleArea_18 : decode cX3_doubleArea 18 = .ok (.istore 5, 2) := by decide +kernel
theorem dX3_doubleArea_20 : decode cX3_doubleArea 20 = .ok (.aload_n 0, 1) := by decide +kernel
theorem dX3_doubleArea_21 : decode cX3_doubleArea 21 = .ok (.getfield 9, 3) := by decide +kernel
theorem dX3_doubleArea_24 : decode cX3_doubleArea 24 = .ok (.iload 4, 2) := by decide +kernel
theorem dX3_doubleArea_26 : decode cX3_doubleArea 26 = .ok (.iload_n 1, 1) := by decide +kernel
theorem dX3_doubleArea_27 : decode cX3_doubleArea 27 = .ok (.invokestatic 29, 3) := by decide +kernel
theorem dX3_doubleArea_30 : decode cX3_doubleArea 30 = .ok (.iaload, 1) := by decide +kernel
theorem dX3_doubleArea_31 : decode cX3_doubleArea 31 = .ok (.istore 6, 2) := by decide +kernel
theorem dX3_doubleArea_33 : decode cX3_doubleArea 33 = .ok (.lload_n 2, 1) := by decide +kernel
theorem dX3_doubleArea_34 : decode cX3_doubleArea 34 = .ok (.aload_n 0, 1) := by decide +kernel
theorem dX3_doubleArea_35 : decode cX3_doubleArea 35 = .ok (.getfield 15, 3) := by decide +kernel
theorem dX3_doubleArea_38 : decode cX3_doubleArea 38 = .ok (.getfield 59, 3) := by decide +kernel
theorem dX3_doubleArea_41 : decode cX3_doubleArea 41 = .ok (.iload 5, 2) := by decide +kernel
theorem dX3_doubleArea_43 : decode cX3_doubleArea 43 = .ok (.iaload, 1) := by decide +kernel
theorem dX3_doubleArea_44 : decode cX3_doubleArea 44 = .ok (.i2l, 1) := by decide +kernel
theorem dX3_doubleArea_45 : decode cX3_doubleArea 45 = .ok (.aload_n 0, 1) := by decide +kernel
theorem dX3_doubleArea_46 : decode cX3_doubleArea 46 = .ok (.getfield 15, 3) := by decide +kernel
theorem dX3_doubleArea_49 : decode cX3_doubleArea 49 = .ok (.getfield 40, 3) := by decide +kernel
theorem dX3_doubleArea_52 : decode cX3_doubleArea 52 = .ok (.iload 6, 2) := by decide +kernel
theorem dX3_doubleArea_54 : decode cX3_doubleArea 54 = .ok (.iaload, 1) := by decide +kernel
theorem dX3_doubleArea_55 : decode cX3_doubleArea 55 = .ok (.i2l, 1) := by decide +kernel
theorem dX3_doubleArea_56 : decode cX3_doubleArea 56 = .ok (.lmul, 1) := by decide +kernel
theorem dX3_doubleArea_57 : decode cX3_doubleArea 57 = .ok (.aload_n 0, 1) := by decide +kernel
theorem dX3_doubleArea_58 : decode cX3_doubleArea 58 = .ok (.getfield 15, 3) := by decide +kernel
theorem dX3_doubleArea_61 : decode cX3_doubleArea 61 = .ok (.getfield 59, 3) := by decide +kernel
theorem dX3_doubleArea_64 : decode cX3_doubleArea 64 = .ok (.iload 6, 2) := by decide +kernel
theorem dX3_doubleArea_66 : decode cX3_doubleArea 66 = .ok (.iaload, 1) := by decide +kernel
theorem dX3_doubleArea_67 : decode cX3_doubleArea 67 = .ok (.i2l, 1) := by decide +kernel
theorem dX3_doubleArea_68 : decode cX3_doubleArea 68 = .ok (.aload_n 0, 1) := by decide +kernel
theorem dX3_doubleArea_69 : decode cX3_doubleArea 69 = .ok (.getfield 15, 3) := by decide +kernel
theorem dX3_doubleArea_72 : decode cX3_doubleArea 72 = .ok (.getfield 40, 3) := by decide +kernel
theorem dX3_doubleArea_75 : decode cX3_doubleArea 75 = .ok (.iload 5, 2) := by decide +kernel
theorem dX3_doubleArea_77 : decode cX3_doubleArea 77 = .ok (.iaload, 1) := by decide +kernel
theorem dX3_doubleArea_78 : decode cX3_doubleArea 78 = .ok (.i2l, 1) := by decide +kernel
theorem dX3_doubleArea_79 : decode cX3_doubleArea 79 = .ok (.lmul, 1) := by decide +kernel
theorem dX3_doubleArea_80 : decode cX3_doubleArea 80 = .ok (.lsub, 1) := by decide +kernel
theorem dX3_doubleArea_81 : decode cX3_doubleArea 81 = .ok (.ladd, 1) := by decide +kernel
theorem dX3_doubleArea_82 : decode cX3_doubleArea 82 = .ok (.lstore_n 2, 1) := by decide +kernel
theorem dX3_doubleArea_83 : decode cX3_doubleArea 83 = .ok (.iinc 4 1, 3) := by decide +kernel
theorem dX3_doubleArea_86 : decode cX3_doubleArea 86 = .ok (.goto (-81), 3) := by decide +kernel
theorem dX3_doubleArea_89 : decode cX3_doubleArea 89 = .ok (.lload_n 2, 1) := by decide +kernel
theorem dX3_doubleArea_90 : decode cX3_doubleArea 90 = .ok (.lreturn, 1) := by decide +kernel
theorem dX3_following_0 : decode cX3_following 0 = .ok (.iload_n 0, 1) := by decide +kernel
theorem dX3_following_1 : decode cX3_following 1 = .ok (.iconst 1, 1) := by decide +kernel
theorem dX3_following_2 : decode cX3_following 2 = .ok (.iadd, 1) := by decide +kernel
theorem dX3_following_3 : decode cX3_following 3 = .ok (.iload_n 1, 1) := by decide +kernel
theorem dX3_following_4 : decode cX3_following 4 = .ok (.if_icmp .ge 9, 3) := by decide +kernel
theorem dX3_following_7 : decode cX3_following 7 = .ok (.iload_n 0, 1) := by decide +kernel
theorem dX3_following_8 : decode cX3_following 8 = .ok (.iconst 1, 1) := by decide +kernel
theorem dX3_following_9 : decode cX3_following 9 = .ok (.iadd, 1) := by decide +kernel
theorem dX3_following_10 : decode cX3_following 10 = .ok (.goto 4, 3) := by decide +kernel
theorem dX3_following_13 : decode cX3_following 13 = .ok (.iconst 0, 1) := by decide +kernel
theorem dX3_following_14 : decode cX3_following 14 = .ok (.ireturn, 1) := by decide +kernel
