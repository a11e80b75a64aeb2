theorem dX2_init_0 : decode cX2_init 0 = .ok (.aload_n 0, 1) := by decide +kernel
theorem dX2_init_1 : decode cX2_init 1 = .ok (.invokespecial 3, 3) := by decide +kernel
theorem dX2_init_4 : decode cX2_init 4 = .ok (.aload_n 0, 1) := by decide +kernel
theorem dX2_init_5 : decode cX2_init 5 = .ok (.bipush 60, 2) := by decide +kernel
theorem dX2_init_7 : decode cX2_init 7 = .ok (.newarray .int, 2) := by decide +kernel
theorem dX2_init_9 : decode cX2_init 9 = .ok (.putfield 9, 3) := by decide +kernel
theorem dX2_init_12 : decode cX2_init 12 = .ok (.aload_n 0, 1) := by decide +kernel
theorem dX2_init_13 : decode cX2_init 13 = .ok (.bipush 60, 2) := by decide +kernel
theorem dX2_init_15 : decode cX2_init 15 = .ok (.newarray .int, 2) := by decide +kernel
theorem dX2_init_17 : decode cX2_init 17 = .ok (.putfield 15, 3) := by decide +kernel
theorem dX2_init_20 : decode cX2_init 20 = .ok (.return_, 1) := by decide +kernel
theorem dX2_add_0 : decode cX2_add 0 = .ok (.aload_n 0, 1) := by decide +kernel
theorem dX2_add_1 : decode cX2_add 1 = .ok (.getfield 9, 3) := by decide +kernel
theorem dX2_add_4 : decode cX2_add 4 = .ok (.aload_n 0, 1) := by decide +kernel
theorem dX2_add_5 : decode cX2_add 5 = .ok (.getfield 18, 3) := by decide +kernel
theorem dX2_add_8 : decode cX2_add 8 = .ok (.iload_n 1, 1) := by decide +kernel
theorem dX2_add_9 : decode cX2_add 9 = .ok (.iastore, 1) := by decide +kernel
theorem dX2_add_10 : decode cX2_add 10 = .ok (.aload_n 0, 1) := by decide +kernel
theorem dX2_add_11 : decode cX2_add 11 = .ok (.getfield 15, 3) := by decide +kernel
theorem dX2_add_14 : decode cX2_add 14 = .ok (.aload_n 0, 1) := by decide +kernel
theorem dX2_add_15 : decode cX2_add 15 = .ok (.getfield 18, 3) := by decide +kernel
theorem dX2_add_18 : decode cX2_add 18 = .ok (.iload_n 2, 1) := by decide +kernel
theorem dX2_add_19 : decode cX2_add 19 = .ok (.iastore, 1) := by decide +kernel
theorem dX2_add_20 : decode cX2_add 20 = .ok (.aload_n 0, 1) := by decide +kernel
theorem dX2_add_21 : decode cX2_add 21 = .ok (.dup, 1) := by decide +kernel
theorem dX2_add_22 : decode cX2_add 22 = .ok (.getfield 18, 3) := by decide +kernel
theorem dX2_add_25 : decode cX2_add 25 = .ok (.iconst 1, 1) := by decide +kernel
theorem dX2_add_26 : decode cX2_add 26 = .ok (.iadd, 1) := by decide +kernel
theorem dX2_add_27 : decode cX2_add 27 = .ok (.putfield 18, 3) := by decide +kernel
theorem dX2_add_30 : decode cX2_add 30 = .ok (.aload_n 0, 1) := by decide +kernel
theorem dX2_add_31 : decode cX2_add 31 = .ok (.getfield 18, 3) := by decide +kernel
theorem dX2_add_34 : decode cX2_add 34 = .ok (.iconst 1, 1) := by decide +kernel
theorem dX2_add_35 : decode cX2_add 35 = .ok (.isub, 1) := by decide +kernel
theorem dX2_add_36 : decode cX2_add 36 = .ok (.ireturn, 1) := by decide +kernel
theorem dX2_has_0 : decode cX2_has 0 = .ok (.iload_n 1, 1) := by decide +kernel
theorem dX2_has_1 : decode cX2_has 1 = .ok (.ifCond .lt 15, 3) := by decide +kernel
theorem dX2_has_4 : decode cX2_has 4 = .ok (.iload_n 1, 1) := by decide +kernel
theorem dX2_has_5 : decode cX2_has 5 = .ok (.aload_n 0, 1) := by decide +kernel
theorem dX2_has_6 : decode cX2_has 6 = .ok (.getfield 18, 3) := by decide +kernel
theorem dX2_has_9 : decode cX2_has 9 = .ok (.if_icmp .ge 7, 3) := by decide +kernel
theorem dX2_has_12 : decode cX2_has 12 = .ok (.iconst 1, 1) := by decide +kernel
theorem dX2_has_13 : decode cX2_has 13 = .ok (.goto 4, 3) := by decide +kernel
theorem dX2_has_16 : decode cX2_has 16 = .ok (.iconst 0, 1) := by decide +kernel
theorem dX2_has_17 : decode cX2_has 17 = .ok (.ireturn, 1) := by decide +kernel
theorem dX2_hasAll_0 : decode cX2_hasAll 0 = .ok (.aload_n 0, 1) := by decide +kernel
theorem dX2_hasAll_1 : decode cX2_hasAll 1 = .ok (.iload_n 1, 1) := by decide +kernel
theorem dX2_hasAll_2 : decode cX2_hasAll 2 = .ok (.invokevirtual 22, 3) := by decide +kernel
theorem dX2_hasAll_5 : decode cX2_hasAll 5 = .ok (.ifCond .eq 32, 3) := by decide +kernel
theorem dX2_hasAll_8 : decode cX2_hasAll 8 = .ok (.aload_n 0, 1) := by decide +kernel
theorem dX2_hasAll_9 : decode cX2_hasAll 9 = .ok (.iload_n 2, 1) := by decide +kernel
theorem dX2_hasAll_10 : decode cX2_hasAll 10 = .ok (.invokevirtual 22, 3) := by decide +kernel
theorem dX2_hasAll_13 : decode cX2_hasAll 13 = .ok (.ifCond .eq 24, 3) := by decide +kernel
theorem dX2_hasAll_16 : decode cX2_hasAll 16 = .ok (.aload_n 0, 1) := by decide +kernel
theorem dX2_hasAll_17 : decode cX2_hasAll 17 = .ok (.iload_n 3, 1) := by decide +kernel
theorem dX2_hasAll_18 : decode cX2_hasAll 18 = .ok (.invokevirtual 22, 3) := by decide +kernel
theorem dX2_hasAll_21 : decode cX2_hasAll 21 = .ok (.ifCond .eq 16, 3) := by decide +kernel
theorem dX2_hasAll_24 : decode cX2_hasAll 24 = .ok (.aload_n 0, 1) := by decide +kernel
theorem dX2_hasAll_25 : decode cX2_hasAll 25 = .ok (.iload 4, 2) := by decide +kernel
theorem dX2_hasAll_27 : decode cX2_hasAll 27 = .ok (.invokevirtual 22, 3) := by decide +kernel
theorem dX2_hasAll_30 : decode cX2_hasAll 30 = .ok (.ifCond .eq 7, 3) := by decide +kernel
theorem dX2_hasAll_33 : decode cX2_hasAll 33 = .ok (.iconst 1, 1) := by decide +kernel
theorem dX2_hasAll_34 : decode cX2_hasAll 34 = .ok (.goto 4, 3) := by decide +kernel
theorem dX2_hasAll_37 : decode cX2_hasAll 37 = .ok (.iconst 0, 1) := by decide +kernel
theorem dX2_hasAll_38 : decode cX2_hasAll 38 = .ok (.ireturn, 1) := by decide +kernel
theorem dX2_same_0 : decode cX2_same 0 = .ok (.aload_n 0, 1) := by decide +kernel
theorem dX2_same_1 : decode cX2_same 1 = .ok (.getfield 9, 3) := by decide +kernel
theorem dX2_same_4 : decode cX2_same 4 = .ok (.iload_n 1, 1) := by decide +kernel
theorem dX2_same_5 : decode cX2_same 5 = .ok (.iaload, 1) := by decide +kernel
theorem dX2_same_6 : decode cX2_same 6 = .ok (.aload_n 0, 1) := by decide +kernel
theorem dX2_same_7 : decode cX2_same 7 = .ok (.getfield 9, 3) := by decide +kernel
theorem dX2_same_10 : decode cX2_same 10 = .ok (.iload_n 2, 1) := by decide +kernel
theorem dX2_same_11 : decode cX2_same 11 = .ok (.iaload, 1) := by decide +kernel
theorem dX2_same_12 : decode cX2_same 12 = .ok (.if_icmp .ne 22, 3) := by decide +kernel
theorem dX2_same_15 : decode cX2_same 15 = .ok (.aload_n 0, 1) := by decide +kernel
theorem dX2_same_16 : decode cX2_same 16 = .ok (.getfield 15, 3) := by decide +kernel
theorem dX2_same_19 : decode cX2_same 19 = .ok (.iload_n 1, 1) := by decide +kernel
theorem dX2_same_20 : decode cX2_same 20 = .ok (.iaload, 1) := by decide +kernel
theorem dX2_same_21 : decode cX2_same 21 = .ok (.aload_n 0, 1) := by decide +kernel
theorem dX2_same_22 : decode cX2_same 22 = .ok (.getfield 15, 3) := by decide +kernel
theorem dX2_same_25 : decode cX2_same 25 = .ok (.iload_n 2, 1) := by decide +kernel
theorem dX2_same_26 : decode cX2_same 26 = .ok (.iaload, 1) := by decide +kernel
theorem dX2_same_27 : decode cX2_same 27 = .ok (.if_icmp .ne 7, 3) := by decide +kernel
theorem dX2_same_30 : decode cX2_same 30 = .ok (.iconst 1, 1) := by decide +kernel
theorem dX2_same_31 : decode cX2_same 31 = .ok (.goto 4, 3) := by decide +kernel
theorem dX2_same_34 : decode cX2_same 34 = .ok (.iconst 0, 1) := by decide +kernel
theorem dX2_same_35 : decode cX2_same 35 = .ok (.ireturn, 1) := by decide +kernel
theorem dX2_anySame_0 : decode cX2_anySame 0 = .ok (.aload_n 0, 1) := by decide +kernel
theorem dX2_anySame_1 : decode cX2_anySame 1 = .ok (.iload_n 1, 1) := by decide +kernel
theorem dX2_anySame_2 : decode cX2_anySame 2 = .ok (.iload_n 2, 1) := by decide +kernel
theorem dX2_anySame_3 : decode cX2_anySame 3 = .ok (.invokevirtual 26, 3) := by decide +kernel
theorem dX2_anySame_6 : decode cX2_anySame 6 = .ok (.ifCond .ne 51, 3) := by decide +kernel
theorem dX2_anySame_9 : decode cX2_anySame 9 = .ok (.aload_n 0, 1) := by decide +kernel
theorem dX2_anySame_10 : decode cX2_anySame 10 = .ok (.iload_n 1, 1) := by decide +kernel
theorem dX2_anySame_11 : decode cX2_anySame 11 = .ok (.iload_n 3, 1) := by decide +kernel
theorem dX2_anySame_12 : decode cX2_anySame 12 = .ok (.invokevirtual 26, 3) := by decide +kernel
theorem dX2_anySame_15 : decode cX2_anySame 15 = .ok (.ifCond .ne 42, 3) := by decide +kernel
theorem dX2_anySame_18 : decode cX2_anySame 18 = .ok (.aload_n 0, 1) := by decide +kernel
theorem dX2_anySame_19 : decode cX2_anySame 19 = .ok (.iload_n 1, 1) := by decide +kernel
theorem dX2_anySame_20 : decode cX2_anySame 20 = .ok (.iload 4, 2) := by decide +kernel
theorem dX2_anySame_22 : decode cX2_anySame 22 = .ok (.invokevirtual 26, 3) := by decide +kernel
theorem dX2_anySame_25 : decode cX2_anySame 25 = .ok (.ifCond .ne 32, 3) := by decide +kernel
theorem dX2_anySame_28 : decode cX2_anySame 28 = .ok (.aload_n 0, 1) := by decide +kernel
theorem dX2_anySame_29 : decode cX2_anySame 29 = .ok (.iload_n 2, 1) := by decide +kernel
theorem dX2_anySame_30 : decode cX2_anySame 30 = .ok (.iload_n 3, 1) := by decide +kernel
theorem dX2_anySame_31 : decode cX2_anySame 31 = .ok (.invokevirtual 26, 3) := by decide +kernel
theorem dX2_anySame_34 : decode cX2_anySame 34 = .ok (.ifCond .ne 23, 3) := by decide +kernel
theorem dX2_anySame_37 : decode cX2_anySame 37 = .ok (.aload_n 0, 1) := by decide +kernel
theorem dX2_anySame_38 : decode cX2_anySame 38 = .ok (.iload_n 2, 1) := by decide +kernel
theorem dX2_anySame_39 : decode cX2_anySame 39 = .ok (.iload 4, 2) := by decide +kernel
theorem dX2_anySame_41 : decode cX2_anySame 41 = .ok (.invokevirtual 26, 3) := by decide +kernel
theorem dX2_anySame_44 : decode cX2_anySame 44 = .ok (.ifCond .ne 13, 3) := by decide +kernel
theorem dX2_anySame_47 : decode cX2_anySame 47 = .ok (.aload_n 0, 1) := by decide +kernel
theorem dX2_anySame_48 : decode cX2_anySame 48 = .ok (.iload_n 3, 1) := by decide +kernel
theorem dX2_anySame_49 : decode cX2_anySame 49 = .ok (.iload 4, 2) := by decide +kernel
theorem dX2_anySame_51 : decode cX2_anySame 51 = .ok (.invokevirtual 26, 3) := by decide +kernel
theorem dX2_anySame_54 : decode cX2_anySame 54 = .ok (.ifCond .eq 7, 3) := by decide +kernel
theorem dX2_anySame_57 : decode cX2_anySame 57 = .ok (.iconst 1, 1) := by decide +kernel
theorem dX2_anySame_58 : decode cX2_anySame 58 = .ok (.goto 4, 3) := by decide +kernel
theorem dX2_anySame_61 : decode cX2_anySame 61 = .ok (.iconst 0, 1) := by decide +kernel
theorem dX2_anySame_62 : decode cX2_anySame 62 = .ok (.ireturn, 1) := by decide +kernel
theorem dX2_turn_0 : decode cX2_turn 0 = .ok (.aload_n 0, 1) := by decide +kernel
theorem dX2_turn_1 : decode cX2_turn 1 = .ok (.getfield 9, 3) := by decide +kernel
theorem dX2_turn_4 : decode cX2_turn 4 = .ok (.iload_n 2, 1) := by decide +kernel
theorem dX2_turn_5 : decode cX2_turn 5 = .ok (.iaload, 1) := by decide +kernel
theorem dX2_turn_6 : decode cX2_turn 6 = .ok (.aload_n 0, 1) := by decide +kernel
theorem dX2_turn_7 : decode cX2_turn 7 = .ok (.getfield 9, 3) := by decide +kernel
theorem dX2_turn_10 : decode cX2_turn 10 = .ok (.iload_n 1, 1) := by decide +kernel
theorem dX2_turn_11 : decode cX2_turn 11 = .ok (.iaload, 1) := by decide +kernel
theorem dX2_turn_12 : decode cX2_turn 12 = .ok (.isub, 1) := by decide +kernel
theorem dX2_turn_13 : decode cX2_turn 13 = .ok (.i2l, 1) := by decide +kernel
theorem dX2_turn_14 : decode cX2_turn 14 = .ok (.aload_n 0, 1) := by decide +kernel
theorem dX2_turn_15 : decode cX2_turn 15 = .ok (.getfield 15, 3) := by decide +kernel
theorem dX2_turn_18 : decode cX2_turn 18 = .ok (.iload_n 3, 1) := by decide +kernel
theorem dX2_turn_19 : decode cX2_turn 19 = .ok (.iaload, 1) := by decide +kernel
theorem dX2_turn_20 : decode cX2_turn 20 = .ok (.aload_n 0, 1) := by decide +kernel
theorem dX2_turn_21 : decode cX2_turn 21 = .ok (.getfield 15, 3) := by decide +kernel
theorem dX2_turn_24 : decode cX2_turn 24 = .ok (.iload_n 1, 1) := by decide +kernel
theorem dX2_turn_25 : decode cX2_turn 25 = .ok (.iaload, 1) := by decide +kernel
theorem dX2_turn_26 : decode cX2_turn 26 = .ok (.isub, 1) := by decide +kernel
theorem dX2_turn_27 : decode cX2_turn 27 = .ok (.i2l, 1) := by decide +kernel
theorem dX2_turn_28 : decode cX2_turn 28 = .ok (.lmul, 1) := by decide +kernel
theorem dX2_turn_29 : decode cX2_turn 29 = .ok (.lstore 4, 2) := by decide +kernel
theorem dX2_turn_31 : decode cX2_turn 31 = .ok (.aload_n 0, 1) := by decide +kernel
theorem dX2_turn_32 : decode cX2_turn 32 = .ok (.getfield 15, 3) := by decide +kernel
theorem dX2_turn_35 : decode cX2_turn 35 = .ok (.iload_n 2, 1) := by decide +kernel
theorem dX2_turn_36 : decode cX2_turn 36 = .ok (.iaload, 1) := by decide +kernel
theorem dX2_turn_37 : decode cX2_turn 37 = .ok (.aload_n 0, 1) := by decide +kernel
theorem dX2_turn_38 : decode cX2_turn 38 = .ok (.getfield 15, 3) := by decide +kernel
theorem dX2_turn_41 : decode cX2_turn 41 = .ok (.iload_n 1, 1) := by decide +kernel
theorem dX2_turn_42 : decode cX2_turn 42 = .ok (.iaload, 1) := by decide +kernel
theorem dX2_turn_43 : decode cX2_turn 43 = .ok (.isub, 1) := by decide +kernel
theorem dX2_turn_44 : decode cX2_turn 44 = .ok (.i2l, 1) := by decide +kernel
theorem dX2_turn_45 : decode cX2_turn 45 = .ok (.aload_n 0, 1) := by decide +kernel
theorem dX2_turn_46 : decode cX2_turn 46 = .ok (.getfield 9, 3) := by decide +kernel
theorem dX2_turn_49 : decode cX2_turn 49 = .ok (.iload_n 3, 1) := by decide +kernel
theorem dX2_turn_50 : decode cX2_turn 50 = .ok (.iaload, 1) := by decide +kernel
theorem dX2_turn_51 : decode cX2_turn 51 = .ok (.aload_n 0, 1) := by decide +kernel
theorem dX2_turn_52 : decode cX2_turn 52 = .ok (.getfield 9, 3) := by decide +kernel
theorem dX2_turn_55 : decode cX2_turn 55 = .ok (.iload_n 1, 1) := by decide +kernel
theorem dX2_turn_56 : decode cX2_turn 56 = .ok (.iaload, 1) := by decide +kernel
theorem dX2_turn_57 : decode cX2_turn 57 = .ok (.isub, 1) := by decide +kernel
theorem dX2_turn_58 : decode cX2_turn 58 = .ok (.i2l, 1) := by decide +kernel
theorem dX2_turn_59 : decode cX2_turn 59 = .ok (.lmul, 1) := by decide +kernel
theorem dX2_turn_60 : decode cX2_turn 60 = .ok (.lstore 6, 2) := by decide +kernel
theorem dX2_turn_62 : decode cX2_turn 62 = .ok (.lload 4, 2) := by decide +kernel
theorem dX2_turn_64 : decode cX2_turn 64 = .ok (.lload 6, 2) := by decide +kernel
theorem dX2_turn_66 : decode cX2_turn 66 = .ok (.lsub, 1) := by decide +kernel
theorem dX2_turn_67 : decode cX2_turn 67 = .ok (.invokestatic 30, 3) := by decide +kernel
theorem dX2_turn_70 : decode cX2_turn 70 = .ok (.ireturn, 1) := by decide +kernel
theorem dX2_lift_0 : decode cX2_lift 0 = .ok (.aload_n 0, 1) := by decide +kernel
theorem dX2_lift_1 : decode cX2_lift 1 = .ok (.getfield 9, 3) := by decide +kernel
theorem dX2_lift_4 : decode cX2_lift 4 = .ok (.iload_n 1, 1) := by decide +kernel
theorem dX2_lift_5 : decode cX2_lift 5 = .ok (.iaload, 1) := by decide +kernel
theorem dX2_lift_6 : decode cX2_lift 6 = .ok (.aload_n 0, 1) := by decide +kernel
theorem dX2_lift_7 : decode cX2_lift 7 = .ok (.getfield 9, 3) := by decide +kernel
theorem dX2_lift_10 : decode cX2_lift 10 = .ok (.iload 4, 2) := by decide +kernel
theorem dX2_lift_12 : decode cX2_lift 12 = .ok (.iaload, 1) := by decide +kernel
theorem dX2_lift_13 : decode cX2_lift 13 = .ok (.isub, 1) := by decide +kernel
theorem dX2_lift_14 : decode cX2_lift 14 = .ok (.i2l, 1) := by decide +kernel
theorem dX2_lift_15 : decode cX2_lift 15 = .ok (.lstore 5, 2) := by decide +kernel
theorem dX2_lift_17 : decode cX2_lift 17 = .ok (.aload_n 0, 1) := by decide +kernel
theorem dX2_lift_18 : decode cX2_lift 18 = .ok (.getfield 15, 3) := by decide +kernel
theorem dX2_lift_21 : decode cX2_lift 21 = .ok (.iload_n 1, 1) := by decide +kernel
theorem dX2_lift_22 : decode cX2_lift 22 = .ok (.iaload, 1) := by decide +kernel
theorem dX2_lift_23 : decode cX2_lift 23 = .ok (.aload_n 0, 1) := by decide +kernel
theorem dX2_lift_24 : decode cX2_lift 24 = .ok (.getfield 15, 3) := by decide +kernel
theorem dX2_lift_27 : decode cX2_lift 27 = .ok (.iload 4, 2) := by decide +kernel
theorem dX2_lift_29 : decode cX2_lift 29 = .ok (.iaload, 1) := by decide +kernel
theorem dX2_lift_30 : decode cX2_lift 30 = .ok (.isub, 1) := by decide +kernel
theorem dX2_lift_31 : decode cX2_lift 31 = .ok (.i2l, 1) := by decide +kernel
theorem dX2_lift_32 : decode cX2_lift 32 = .ok (.lstore 7, 2) := by decide +kernel
theorem dX2_lift_34 : decode cX2_lift 34 = .ok (.aload_n 0, 1) := by decide +kernel
theorem dX2_lift_35 : decode cX2_lift 35 = .ok (.getfield 9, 3) := by decide +kernel
theorem dX2_lift_38 : decode cX2_lift 38 = .ok (.iload_n 2, 1) := by decide +kernel
theorem dX2_lift_39 : decode cX2_lift 39 = .ok (.iaload, 1) := by decide +kernel
theorem dX2_lift_40 : decode cX2_lift 40 = .ok (.aload_n 0, 1) := by decide +kernel
theorem dX2_lift_41 : decode cX2_lift 41 = .ok (.getfield 9, 3) := by decide +kernel
theorem dX2_lift_44 : decode cX2_lift 44 = .ok (.iload 4, 2) := by decide +kernel
theorem dX2_lift_46 : decode cX2_lift 46 = .ok (.iaload, 1) := by decide +kernel
theorem dX2_lift_47 : decode cX2_lift 47 = .ok (.isub, 1) := by decide +kernel
theorem dX2_lift_48 : decode cX2_lift 48 = .ok (.i2l, 1) := by decide +kernel
theorem dX2_lift_49 : decode cX2_lift 49 = .ok (.lstore 9, 2) := by decide +kernel
theorem dX2_lift_51 : decode cX2_lift 51 = .ok (.aload_n 0, 1) := by decide +kernel
theorem dX2_lift_52 : decode cX2_lift 52 = .ok (.getfield 15, 3) := by decide +kernel
theorem dX2_lift_55 : decode cX2_lift 55 = .ok (.iload_n 2, 1) := by decide +kernel
theorem dX2_lift_56 : decode cX2_lift 56 = .ok (.iaload, 1) := by decide +kernel
theorem dX2_lift_57 : decode cX2_lift 57 = .ok (.aload_n 0, 1) := by decide +kernel
theorem dX2_lift_58 : decode cX2_lift 58 = .ok (.getfield 15, 3) := by decide +kernel
theorem dX2_lift_61 : decode cX2_lift 61 = .ok (.iload 4, 2) := by decide +kernel
theorem dX2_lift_63 : decode cX2_lift 63 = .ok (.iaload, 1) := by decide +kernel
theorem dX2_lift_64 : decode cX2_lift 64 = .ok (.isub, 1) := by decide +kernel
theorem dX2_lift_65 : decode cX2_lift 65 = .ok (.i2l, 1) := by decide +kernel
theorem dX2_lift_66 : decode cX2_lift 66 = .ok (.lstore 11, 2) := by decide +kernel
theorem dX2_lift_68 : decode cX2_lift 68 = .ok (.aload_n 0, 1) := by decide +kernel
theorem dX2_lift_69 : decode cX2_lift 69 = .ok (.getfield 9, 3) := by decide +kernel
theorem dX2_lift_72 : decode cX2_lift 72 = .ok (.iload_n 3, 1) := by decide +kernel
theorem dX2_lift_73 : decode cX2_lift 73 = .ok (.iaload, 1) := by decide +kernel
theorem dX2_lift_74 : decode cX2_lift 74 = .ok (.aload_n 0, 1) := by decide +kernel
theorem dX2_lift_75 : decode cX2_lift 75 = .ok (.getfield 9, 3) := by decide +kernel
theorem dX2_lift_78 : decode cX2_lift 78 = .ok (.iload 4, 2) := by decide +kernel
theorem dX2_lift_80 : decode cX2_lift 80 = .ok (.iaload, 1) := by decide +kernel
theorem dX2_lift_81 : decode cX2_lift 81 = .ok (.isub, 1) := by decide +kernel
theorem dX2_lift_82 : decode cX2_lift 82 = .ok (.i2l, 1) := by decide +kernel
theorem dX2_lift_83 : decode cX2_lift 83 = .ok (.lstore 13, 2) := by decide +kernel
theorem dX2_lift_85 : decode cX2_lift 85 = .ok (.aload_n 0, 1) := by decide +kernel
theorem dX2_lift_86 : decode cX2_lift 86 = .ok (.getfield 15, 3) := by decide +kernel
theorem dX2_lift_89 : decode cX2_lift 89 = .ok (.iload_n 3, 1) := by decide +kernel
theorem dX2_lift_90 : decode cX2_lift 90 = .ok (.iaload, 1) := by decide +kernel
theorem dX2_lift_91 : decode cX2_lift 91 = .ok (.aload_n 0, 1) := by decide +kernel
theorem dX2_lift_92 : decode cX2_lift 92 = .ok (.getfield 15, 3) := by decide +kernel
theorem dX2_lift_95 : decode cX2_lift 95 = .ok (.iload 4, 2) := by decide +kernel
theorem dX2_lift_97 : decode cX2_lift 97 = .ok (.iaload, 1) := by decide +kernel
theorem dX2_lift_98 : decode cX2_lift 98 = .ok (.isub, 1) := by decide +kernel
theorem dX2_lift_99 : decode cX2_lift 99 = .ok (.i2l, 1) := by decide +kernel
theorem dX2_lift_100 : decode cX2_lift 100 = .ok (.lstore 15, 2) := by decide +kernel
theorem dX2_lift_102 : decode cX2_lift 102 = .ok (.lload 5, 2) := by decide +kernel
theorem dX2_lift_104 : decode cX2_lift 104 = .ok (.lload 5, 2) := by decide +kernel
theorem dX2_lift_106 : decode cX2_lift 106 = .ok (.lmul, 1) := by decide +kernel
theorem dX2_lift_107 : decode cX2_lift 107 = .ok (.lload 7, 2) := by decide +kernel
theorem dX2_lift_109 : decode cX2_lift 109 = .ok (.lload 7, 2) := by decide +kernel
theorem dX2_lift_111 : decode cX2_lift 111 = .ok (.lmul, 1) := by decide +kernel
theorem dX2_lift_112 : decode cX2_lift 112 = .ok (.ladd, 1) := by decide +kernel
theorem dX2_lift_113 : decode cX2_lift 113 = .ok (.lstore 17, 2) := by decide +kernel
theorem dX2_lift_115 : decode cX2_lift 115 = .ok (.lload 9, 2) := by decide +kernel
theorem dX2_lift_117 : decode cX2_lift 117 = .ok (.lload 9, 2) := by decide +kernel
theorem dX2_lift_119 : decode cX2_lift 119 = .ok (.lmul, 1) := by decide +kernel
theorem dX2_lift_120 : decode cX2_lift 120 = .ok (.lload 11, 2) := by decide +kernel
theorem dX2_lift_122 : decode cX2_lift 122 = .ok (.lload 11, 2) := by decide +kernel
theorem dX2_lift_124 : decode cX2_lift 124 = .ok (.lmul, 1) := by decide +kernel
theorem dX2_lift_125 : decode cX2_lift 125 = .ok (.ladd, 1) := by decide +kernel
theorem dX2_lift_126 : decode cX2_lift 126 = .ok (.lstore 19, 2) := by decide +kernel
theorem dX2_lift_128 : decode cX2_lift 128 = .ok (.lload 13, 2) := by decide +kernel
theorem dX2_lift_130 : decode cX2_lift 130 = .ok (.lload 13, 2) := by decide +kernel
theorem dX2_lift_132 : decode cX2_lift 132 = .ok (.lmul, 1) := by decide +kernel
theorem dX2_lift_133 : decode cX2_lift 133 = .ok (.lload 15, 2) := by decide +kernel
theorem dX2_lift_135 : decode cX2_lift 135 = .ok (.lload 15, 2) := by decide +kernel
theorem dX2_lift_137 : decode cX2_lift 137 = .ok (.lmul, 1) := by decide +kernel
theorem dX2_lift_138 : decode cX2_lift 138 = .ok (.ladd, 1) := by decide +kernel
theorem dX2_lift_139 : decode cX2_lift 139 = .ok (.lstore 21, 2) := by decide +kernel
theorem dX2_lift_141 : decode cX2_lift 141 = .ok (.lload 17, 2) := by decide +kernel
theorem dX2_lift_143 : decode cX2_lift 143 = .ok (.lload 9, 2) := by decide +kernel
theorem dX2_lift_145 : decode cX2_lift 145 = .ok (.lload 15, 2) := by decide +kernel
theorem dX2_lift_147 : decode cX2_lift 147 = .ok (.lmul, 1) := by decide +kernel
theorem dX2_lift_148 : decode cX2_lift 148 = .ok (.lload 11, 2) := by decide +kernel
theorem dX2_lift_150 : decode cX2_lift 150 = .ok (.lload 13, 2) := by decide +kernel
theorem dX2_lift_152 : decode cX2_lift 152 = .ok (.lmul, 1) := by decide +kernel
theorem dX2_lift_153 : decode cX2_lift 153 = .ok (.lsub, 1) := by decide +kernel
theorem dX2_lift_154 : decode cX2_lift 154 = .ok (.lmul, 1) := by decide +kernel
theorem dX2_lift_155 : decode cX2_lift 155 = .ok (.lload 19, 2) := by decide +kernel
theorem dX2_lift_157 : decode cX2_lift 157 = .ok (.lload 13, 2) := by decide +kernel
theorem dX2_lift_159 : decode cX2_lift 159 = .ok (.lload 7, 2) := by decide +kernel
theorem dX2_lift_161 : decode cX2_lift 161 = .ok (.lmul, 1) := by decide +kernel
theorem dX2_lift_162 : decode cX2_lift 162 = .ok (.lload 15, 2) := by decide +kernel
theorem dX2_lift_164 : decode cX2_lift 164 = .ok (.lload 5, 2) := by decide +kernel
theorem dX2_lift_166 : decode cX2_lift 166 = .ok (.lmul, 1) := by decide +kernel
theorem dX2_lift_167 : decode cX2_lift 167 = .ok (.lsub, 1) := by decide +kernel
theorem dX2_lift_168 : decode cX2_lift 168 = .ok (.lmul, 1) := by decide +kernel
theorem dX2_lift_169 : decode cX2_lift 169 = .ok (.ladd, 1) := by decide +kernel
theorem dX2_lift_170 : decode cX2_lift 170 = .ok (.lload 21, 2) := by decide +kernel
theorem dX2_lift_172 : decode cX2_lift 172 = .ok (.lload 5, 2) := by decide +kernel
theorem dX2_lift_174 : decode cX2_lift 174 = .ok (.lload 11, 2) := by decide +kernel
theorem dX2_lift_176 : decode cX2_lift 176 = .ok (.lmul, 1) := by decide +kernel
theorem dX2_lift_177 : decode cX2_lift 177 = .ok (.lload 7, 2) := by decide +kernel
theorem dX2_lift_179 : decode cX2_lift 179 = .ok (.lload 9, 2) := by decide +kernel
theorem dX2_lift_181 : decode cX2_lift 181 = .ok (.lmul, 1) := by decide +kernel
theorem dX2_lift_182 : decode cX2_lift 182 = .ok (.lsub, 1) := by decide +kernel
theorem dX2_lift_183 : decode cX2_lift 183 = .ok (.lmul, 1) := by decide +kernel
theorem dX2_lift_184 : decode cX2_lift 184 = .ok (.ladd, 1) := by decide +kernel
theorem dX2_lift_185 : decode cX2_lift 185 = .ok (.invokestatic 30, 3) := by decide +kernel
theorem dX2_lift_188 : decode cX2_lift 188 = .ok (.ireturn, 1) := by decide +kernel
theorem dX2_dot_0 : decode cX2_dot 0 = .ok (.aload_n 0, 1) := by decide +kernel
theorem dX2_dot_1 : decode cX2_dot 1 = .ok (.getfield 9, 3) := by decide +kernel
theorem dX2_dot_4 : decode cX2_dot 4 = .ok (.iload_n 2, 1) := by decide +kernel
theorem dX2_dot_5 : decode cX2_dot 5 = .ok (.iaload, 1) := by decide +kernel
theorem dX2_dot_6 : decode cX2_dot 6 = .ok (.aload_n 0, 1) := by decide +kernel
theorem dX2_dot_7 : decode cX2_dot 7 = .ok (.getfield 9, 3) := by decide +kernel
theorem dX2_dot_10 : decode cX2_dot 10 = .ok (.iload_n 1, 1) := by decide +kernel
theorem dX2_dot_11 : decode cX2_dot 11 = .ok (.iaload, 1) := by decide +kernel
theorem dX2_dot_12 : decode cX2_dot 12 = .ok (.isub, 1) := by decide +kernel
theorem dX2_dot_13 : decode cX2_dot 13 = .ok (.i2l, 1) := by decide +kernel
theorem dX2_dot_14 : decode cX2_dot 14 = .ok (.aload_n 0, 1) := by decide +kernel
theorem dX2_dot_15 : decode cX2_dot 15 = .ok (.getfield 9, 3) := by decide +kernel
theorem dX2_dot_18 : decode cX2_dot 18 = .ok (.iload_n 3, 1) := by decide +kernel
theorem dX2_dot_19 : decode cX2_dot 19 = .ok (.iaload, 1) := by decide +kernel
theorem dX2_dot_20 : decode cX2_dot 20 = .ok (.aload_n 0, 1) := by decide +kernel
theorem dX2_dot_21 : decode cX2_dot 21 = .ok (.getfield 9, 3) := by decide +kernel
theorem dX2_dot_24 : decode cX2_dot 24 = .ok (.iload_n 1, 1) := by decide +kernel
theorem dX2_dot_25 : decode cX2_dot 25 = .ok (.iaload, 1) := by decide +kernel
theorem dX2_dot_26 : decode cX2_dot 26 = .ok (.isub, 1) := by decide +kernel
theorem dX2_dot_27 : decode cX2_dot 27 = .ok (.i2l, 1) := by decide +kernel
theorem dX2_dot_28 : decode cX2_dot 28 = .ok (.lmul, 1) := by decide +kernel
theorem dX2_dot_29 : decode cX2_dot 29 = .ok (.aload_n 0, 1) := by decide +kernel
theorem dX2_dot_30 : decode cX2_dot 30 = .ok (.getfield 15, 3) := by decide +kernel
theorem dX2_dot_33 : decode cX2_dot 33 = .ok (.iload_n 2, 1) := by decide +kernel
theorem dX2_dot_34 : decode cX2_dot 34 = .ok (.iaload, 1) := by decide +kernel
theorem dX2_dot_35 : decode cX2_dot 35 = .ok (.aload_n 0, 1) := by decide +kernel
theorem dX2_dot_36 : decode cX2_dot 36 = .ok (.getfield 15, 3) := by decide +kernel
theorem dX2_dot_39 : decode cX2_dot 39 = .ok (.iload_n 1, 1) := by decide +kernel
theorem dX2_dot_40 : decode cX2_dot 40 = .ok (.iaload, 1) := by decide +kernel
theorem dX2_dot_41 : decode cX2_dot 41 = .ok (.isub, 1) := by decide +kernel
theorem dX2_dot_42 : decode cX2_dot 42 = .ok (.i2l, 1) := by decide +kernel
theorem dX2_dot_43 : decode cX2_dot 43 = .ok (.aload_n 0, 1) := by decide +kernel
theorem dX2_dot_44 : decode cX2_dot 44 = .ok (.getfield 15, 3) := by decide +kernel
theorem dX2_dot_47 : decode cX2_dot 47 = .ok (.iload_n 3, 1) := by decide +kernel
theorem dX2_dot_48 : decode cX2_dot 48 = .ok (.iaload, 1) := by decide +kernel
theorem dX2_dot_49 : decode cX2_dot 49 = .ok (.aload_n 0, 1) := by decide +kernel
theorem dX2_dot_50 : decode cX2_dot 50 = .ok (.getfield 15, 3) := by decide +kernel
theorem dX2_dot_53 : decode cX2_dot 53 = .ok (.iload_n 1, 1) := by decide +kernel
theorem dX2_dot_54 : decode cX2_dot 54 = .ok (.iaload, 1) := by decide +kernel
theorem dX2_dot_55 : decode cX2_dot 55 = .ok (.isub, 1) := by decide +kernel
theorem dX2_dot_56 : decode cX2_dot 56 = .ok (.i2l, 1) := by decide +kernel
theorem dX2_dot_57 : decode cX2_dot 57 = .ok (.lmul, 1) := by decide +kernel
theorem dX2_dot_58 : decode cX2_dot 58 = .ok (.ladd, 1) := by decide +kernel
theorem dX2_dot_59 : decode cX2_dot 59 = .ok (.lreturn, 1) := by decide +kernel
theorem dX2_distance_0 : decode cX2_distance 0 = .ok (.aload_n 0, 1) := by decide +kernel
theorem dX2_distance_1 : decode cX2_distance 1 = .ok (.iload_n 1, 1) := by decide +kernel
theorem dX2_distance_2 : decode cX2_distance 2 = .ok (.iload_n 2, 1) := by decide +kernel
theorem dX2_distance_3 : decode cX2_distance 3 = .ok (.iload_n 2, 1) := by decide +kernel
theorem dX2_distance_4 : decode cX2_distance 4 = .ok (.invokevirtual 34, 3) := by decide +kernel
theorem dX2_distance_7 : decode cX2_distance 7 = .ok (.lreturn, 1) := by decide +kernel
theorem dX2_oneDirection_0 : decode cX2_oneDirection 0 = .ok (.aload_n 0, 1) := by decide +kernel
theorem dX2_oneDirection_1 : decode cX2_oneDirection 1 = .ok (.iload_n 1, 1) := by decide +kernel
theorem dX2_oneDirection_2 : decode cX2_oneDirection 2 = .ok (.iload_n 2, 1) := by decide +kernel
theorem dX2_oneDirection_3 : decode cX2_oneDirection 3 = .ok (.iload_n 3, 1) := by decide +kernel
theorem dX2_oneDirection_4 : decode cX2_oneDirection 4 = .ok (.invokevirtual 38, 3) := by decide +kernel
theorem dX2_oneDirection_7 : decode cX2_oneDirection 7 = .ok (.ifCond .ne 19, 3) := by decide +kernel
theorem dX2_oneDirection_10 : decode cX2_oneDirection 10 = .ok (.aload_n 0, 1) := by decide +kernel
theorem dX2_oneDirection_11 : decode cX2_oneDirection 11 = .ok (.iload_n 1, 1) := by decide +kernel
theorem dX2_oneDirection_12 : decode cX2_oneDirection 12 = .ok (.iload_n 2, 1) := by decide +kernel
theorem dX2_oneDirection_13 : decode cX2_oneDirection 13 = .ok (.iload_n 3, 1) := by decide +kernel
theorem dX2_oneDirection_14 : decode cX2_oneDirection 14 = .ok (.invokevirtual 34, 3) := by decide +kernel
theorem dX2_oneDirection_17 : decode cX2_oneDirection 17 = .ok (.lconst 0, 1) := by decide +kernel
theorem dX2_oneDirection_18 : decode cX2_oneDirection 18 = .ok (.lcmp, 1) := by decide +kernel
theorem dX2_oneDirection_19 : decode cX2_oneDirection 19 = .ok (.ifCond .le 7, 3) := by decide +kernel
theorem dX2_oneDirection_22 : decode cX2_oneDirection 22 = .ok (.iconst 1, 1) := by decide +kernel
theorem dX2_oneDirection_23 : decode cX2_oneDirection 23 = .ok (.goto 4, 3) := by decide +kernel
theorem dX2_oneDirection_26 : decode cX2_oneDirection 26 = .ok (.iconst 0, 1) := by decide +kernel
theorem dX2_oneDirection_27 : decode cX2_oneDirection 27 = .ok (.ireturn, 1) := by decide +kernel
theorem dX2_onWay_0 : decode cX2_onWay 0 = .ok (.aload_n 0, 1) := by decide +kernel
theorem dX2_onWay_1 : decode cX2_onWay 1 = .ok (.iload_n 1, 1) := by decide +kernel
theorem dX2_onWay_2 : decode cX2_onWay 2 = .ok (.iload_n 2, 1) := by decide +kernel
theorem dX2_onWay_3 : decode cX2_onWay 3 = .ok (.iload_n 3, 1) := by decide +kernel
theorem dX2_onWay_4 : decode cX2_onWay 4 = .ok (.invokevirtual 38, 3) := by decide +kernel
theorem dX2_onWay_7 : decode cX2_onWay 7 = .ok (.ifCond .ne 19, 3) := by decide +kernel
theorem dX2_onWay_10 : decode cX2_onWay 10 = .ok (.aload_n 0, 1) := by decide +kernel
theorem dX2_onWay_11 : decode cX2_onWay 11 = .ok (.iload_n 3, 1) := by decide +kernel
theorem dX2_onWay_12 : decode cX2_onWay 12 = .ok (.iload_n 1, 1) := by decide +kernel
theorem dX2_onWay_13 : decode cX2_onWay 13 = .ok (.iload_n 2, 1) := by decide +kernel
theorem dX2_onWay_14 : decode cX2_onWay 14 = .ok (.invokevirtual 34, 3) := by decide +kernel
theorem dX2_onWay_17 : decode cX2_onWay 17 = .ok (.lconst 0, 1) := by decide +kernel
theorem dX2_onWay_18 : decode cX2_onWay 18 = .ok (.lcmp, 1) := by decide +kernel
theorem dX2_onWay_19 : decode cX2_onWay 19 = .ok (.ifCond .gt 7, 3) := by decide +kernel
theorem dX2_onWay_22 : decode cX2_onWay 22 = .ok (.iconst 1, 1) := by decide +kernel
theorem dX2_onWay_23 : decode cX2_onWay 23 = .ok (.goto 4, 3) := by decide +kernel
theorem dX2_onWay_26 : decode cX2_onWay 26 = .ok (.iconst 0, 1) := by decide +kernel
theorem dX2_onWay_27 : decode cX2_onWay 27 = .ok (.ireturn, 1) := by decide +kernel
theorem dX2_strictlyInAngle_0 : decode cX2_strictlyInAngle 0 = .ok (.aload_n 0, 1) := by decide +kernel
theorem dX2_strictlyInAngle_1 : decode cX2_strictlyInAngle 1 = .ok (.iload_n 1, 1) := by decide +kernel
theorem dX2_strictlyInAngle_2 : decode cX2_strictlyInAngle 2 = .ok (.iload_n 2, 1) := by decide +kernel
theorem dX2_strictlyInAngle_3 : decode cX2_strictlyInAngle 3 = .ok (.iload_n 3, 1) := by decide +kernel
theorem dX2_strictlyInAngle_4 : decode cX2_strictlyInAngle 4 = .ok (.invokevirtual 38, 3) := by decide +kernel
theorem dX2_strictlyInAngle_7 : decode cX2_strictlyInAngle 7 = .ok (.ifCond .lt 31, 3) := by decide +kernel
theorem dX2_strictlyInAngle_10 : decode cX2_strictlyInAngle 10 = .ok (.aload_n 0, 1) := by decide +kernel
theorem dX2_strictlyInAngle_11 : decode cX2_strictlyInAngle 11 = .ok (.iload_n 1, 1) := by decide +kernel
theorem dX2_strictlyInAngle_12 : decode cX2_strictlyInAngle 12 = .ok (.iload_n 2, 1) := by decide +kernel
theorem dX2_strictlyInAngle_13 : decode cX2_strictlyInAngle 13 = .ok (.iload 4, 2) := by decide +kernel
theorem dX2_strictlyInAngle_15 : decode cX2_strictlyInAngle 15 = .ok (.invokevirtual 38, 3) := by decide +kernel
theorem dX2_strictlyInAngle_18 : decode cX2_strictlyInAngle 18 = .ok (.ifCond .le 18, 3) := by decide +kernel
theorem dX2_strictlyInAngle_21 : decode cX2_strictlyInAngle 21 = .ok (.aload_n 0, 1) := by decide +kernel
theorem dX2_strictlyInAngle_22 : decode cX2_strictlyInAngle 22 = .ok (.iload_n 1, 1) := by decide +kernel
theorem dX2_strictlyInAngle_23 : decode cX2_strictlyInAngle 23 = .ok (.iload 4, 2) := by decide +kernel
theorem dX2_strictlyInAngle_25 : decode cX2_strictlyInAngle 25 = .ok (.iload_n 3, 1) := by decide +kernel
theorem dX2_strictlyInAngle_26 : decode cX2_strictlyInAngle 26 = .ok (.invokevirtual 38, 3) := by decide +kernel
theorem dX2_strictlyInAngle_29 : decode cX2_strictlyInAngle 29 = .ok (.ifCond .le 7, 3) := by decide +kernel
theorem dX2_strictlyInAngle_32 : decode cX2_strictlyInAngle 32 = .ok (.iconst 1, 1) := by decide +kernel
theorem dX2_strictlyInAngle_33 : decode cX2_strictlyInAngle 33 = .ok (.goto 4, 3) := by decide +kernel
theorem dX2_strictlyInAngle_36 : decode cX2_strictlyInAngle 36 = .ok (.iconst 0, 1) := by decide +kernel
theorem dX2_strictlyInAngle_37 : decode cX2_strictlyInAngle 37 = .ok (.ireturn, 1) := by decide +kernel
theorem dX2_strictlyInAngle_38 : decode cX2_strictlyInAngle 38 = .ok (.aload_n 0, 1) := by decide +kernel
theorem dX2_strictlyInAngle_39 : decode cX2_strictlyInAngle 39 = .ok (.iload_n 1, 1) := by decide +kernel
theorem dX2_strictlyInAngle_40 : decode cX2_strictlyInAngle 40 = .ok (.iload_n 3, 1) := by decide +kernel
theorem dX2_strictlyInAngle_41 : decode cX2_strictlyInAngle 41 = .ok (.iload 4, 2) := by decide +kernel
theorem dX2_strictlyInAngle_43 : decode cX2_strictlyInAngle 43 = .ok (.invokevirtual 38, 3) := by decide +kernel
theorem dX2_strictlyInAngle_46 : decode cX2_strictlyInAngle 46 = .ok (.ifCond .le 14, 3) := by decide +kernel
theorem dX2_strictlyInAngle_49 : decode cX2_strictlyInAngle 49 = .ok (.aload_n 0, 1) := by decide +kernel
theorem dX2_strictlyInAngle_50 : decode cX2_strictlyInAngle 50 = .ok (.iload_n 1, 1) := by decide +kernel
theorem dX2_strictlyInAngle_51 : decode cX2_strictlyInAngle 51 = .ok (.iload 4, 2) := by decide +kernel
theorem dX2_strictlyInAngle_53 : decode cX2_strictlyInAngle 53 = .ok (.iload_n 2, 1) := by decide +kernel
theorem dX2_strictlyInAngle_54 : decode cX2_strictlyInAngle 54 = .ok (.invokevirtual 38, 3) := by decide +kernel
theorem dX2_strictlyInAngle_57 : decode cX2_strictlyInAngle 57 = .ok (.ifCond .gt 7, 3) := by decide +kernel
theorem dX2_strictlyInAngle_60 : decode cX2_strictlyInAngle 60 = .ok (.iconst 1, 1) := by decide +kernel
theorem dX2_strictlyInAngle_61 : decode cX2_strictlyInAngle 61 = .ok (.goto 4, 3) := by decide +kernel
theorem dX2_strictlyInAngle_64 : decode cX2_strictlyInAngle 64 = .ok (.iconst 0, 1) := by decide +kernel
theorem dX2_strictlyInAngle_65 : decode cX2_strictlyInAngle 65 = .ok (.ireturn, 1) := by decide +kernel
theorem dX2_allInLine_0 : decode cX2_allInLine 0 = .ok (.aload_n 0, 1) := by decide +kernel
theorem dX2_allInLine_1 : decode cX2_allInLine 1 = .ok (.iload_n 1, 1) := by decide +kernel
theorem dX2_allInLine_2 : decode cX2_allInLine 2 = .ok (.iload_n 2, 1) := by decide +kernel
theorem dX2_allInLine_3 : decode cX2_allInLine 3 = .ok (.iload_n 3, 1) := by decide +kernel
theorem dX2_allInLine_4 : decode cX2_allInLine 4 = .ok (.invokevirtual 38, 3) := by decide +kernel
theorem dX2_allInLine_7 : decode cX2_allInLine 7 = .ok (.ifCond .ne 40, 3) := by decide +kernel
theorem dX2_allInLine_10 : decode cX2_allInLine 10 = .ok (.aload_n 0, 1) := by decide +kernel
theorem dX2_allInLine_11 : decode cX2_allInLine 11 = .ok (.iload_n 1, 1) := by decide +kernel
theorem dX2_allInLine_12 : decode cX2_allInLine 12 = .ok (.iload_n 2, 1) := by decide +kernel
theorem dX2_allInLine_13 : decode cX2_allInLine 13 = .ok (.iload 4, 2) := by decide +kernel
theorem dX2_allInLine_15 : decode cX2_allInLine 15 = .ok (.invokevirtual 38, 3) := by decide +kernel
theorem dX2_allInLine_18 : decode cX2_allInLine 18 = .ok (.ifCond .ne 29, 3) := by decide +kernel
theorem dX2_allInLine_21 : decode cX2_allInLine 21 = .ok (.aload_n 0, 1) := by decide +kernel
theorem dX2_allInLine_22 : decode cX2_allInLine 22 = .ok (.iload_n 3, 1) := by decide +kernel
theorem dX2_allInLine_23 : decode cX2_allInLine 23 = .ok (.iload 4, 2) := by decide +kernel
theorem dX2_allInLine_25 : decode cX2_allInLine 25 = .ok (.iload_n 1, 1) := by decide +kernel
theorem dX2_allInLine_26 : decode cX2_allInLine 26 = .ok (.invokevirtual 38, 3) := by decide +kernel
theorem dX2_allInLine_29 : decode cX2_allInLine 29 = .ok (.ifCond .ne 18, 3) := by decide +kernel
theorem dX2_allInLine_32 : decode cX2_allInLine 32 = .ok (.aload_n 0, 1) := by decide +kernel
theorem dX2_allInLine_33 : decode cX2_allInLine 33 = .ok (.iload_n 3, 1) := by decide +kernel
theorem dX2_allInLine_34 : decode cX2_allInLine 34 = .ok (.iload 4, 2) := by decide +kernel
theorem dX2_allInLine_36 : decode cX2_allInLine 36 = .ok (.iload_n 2, 1) := by decide +kernel
theorem dX2_allInLine_37 : decode cX2_allInLine 37 = .ok (.invokevirtual 38, 3) := by decide +kernel
theorem dX2_allInLine_40 : decode cX2_allInLine 40 = .ok (.ifCond .ne 7, 3) := by decide +kernel
theorem dX2_allInLine_43 : decode cX2_allInLine 43 = .ok (.iconst 1, 1) := by decide +kernel
theorem dX2_allInLine_44 : decode cX2_allInLine 44 = .ok (.goto 4, 3) := by decide +kernel
theorem dX2_allInLine_47 : decode cX2_allInLine 47 = .ok (.iconst 0, 1) := by decide +kernel
theorem dX2_allInLine_48 : decode cX2_allInLine 48 = .ok (.ireturn, 1) := by decide +kernel
theorem dX2_overlap_0 : decode cX2_overlap 0 = .ok (.aload_n 0, 1) := by decide +kernel
theorem dX2_overlap_1 : decode cX2_overlap 1 = .ok (.aload_n 0, 1) := by decide +kernel
theorem dX2_overlap_2 : decode cX2_overlap 2 = .ok (.iload_n 1, 1) := by decide +kernel
theorem dX2_overlap_3 : decode cX2_overlap 3 = .ok (.iload_n 2, 1) := by decide +kernel
theorem dX2_overlap_4 : decode cX2_overlap 4 = .ok (.invokevirtual 42, 3) := by decide +kernel
theorem dX2_overlap_7 : decode cX2_overlap 7 = .ok (.aload_n 0, 1) := by decide +kernel
theorem dX2_overlap_8 : decode cX2_overlap 8 = .ok (.iload_n 3, 1) := by decide +kernel
theorem dX2_overlap_9 : decode cX2_overlap 9 = .ok (.iload 4, 2) := by decide +kernel
theorem dX2_overlap_11 : decode cX2_overlap 11 = .ok (.invokevirtual 42, 3) := by decide +kernel
theorem dX2_overlap_14 : decode cX2_overlap 14 = .ok (.invokevirtual 46, 3) := by decide +kernel
theorem dX2_overlap_17 : decode cX2_overlap 17 = .ok (.istore 5, 2) := by decide +kernel
theorem dX2_overlap_19 : decode cX2_overlap 19 = .ok (.aload_n 0, 1) := by decide +kernel
theorem dX2_overlap_20 : decode cX2_overlap 20 = .ok (.aload_n 0, 1) := by decide +kernel
theorem dX2_overlap_21 : decode cX2_overlap 21 = .ok (.iload_n 1, 1) := by decide +kernel
theorem dX2_overlap_22 : decode cX2_overlap 22 = .ok (.iload_n 2, 1) := by decide +kernel
theorem dX2_overlap_23 : decode cX2_overlap 23 = .ok (.invokevirtual 46, 3) := by decide +kernel
theorem dX2_overlap_26 : decode cX2_overlap 26 = .ok (.aload_n 0, 1) := by decide +kernel
theorem dX2_overlap_27 : decode cX2_overlap 27 = .ok (.iload_n 3, 1) := by decide +kernel
theorem dX2_overlap_28 : decode cX2_overlap 28 = .ok (.iload 4, 2) := by decide +kernel
theorem dX2_overlap_30 : decode cX2_overlap 30 = .ok (.invokevirtual 46, 3) := by decide +kernel
theorem dX2_overlap_33 : decode cX2_overlap 33 = .ok (.invokevirtual 42, 3) := by decide +kernel
theorem dX2_overlap_36 : decode cX2_overlap 36 = .ok (.istore 6, 2) := by decide +kernel
theorem dX2_overlap_38 : decode cX2_overlap 38 = .ok (.aload_n 0, 1) := by decide +kernel
theorem dX2_overlap_39 : decode cX2_overlap 39 = .ok (.iload 5, 2) := by decide +kernel
theorem dX2_overlap_41 : decode cX2_overlap 41 = .ok (.iload 6, 2) := by decide +kernel
theorem dX2_overlap_43 : decode cX2_overlap 43 = .ok (.invokevirtual 49, 3) := by decide +kernel
theorem dX2_overlap_46 : decode cX2_overlap 46 = .ok (.istore 7, 2) := by decide +kernel
theorem dX2_overlap_48 : decode cX2_overlap 48 = .ok (.iload 7, 2) := by decide +kernel
theorem dX2_overlap_50 : decode cX2_overlap 50 = .ok (.ifCond .le 5, 3) := by decide +kernel
theorem dX2_overlap_53 : decode cX2_overlap 53 = .ok (.iconst 0, 1) := by decide +kernel
theorem dX2_overlap_54 : decode cX2_overlap 54 = .ok (.ireturn, 1) := by decide +kernel
theorem dX2_overlap_55 : decode cX2_overlap 55 = .ok (.iload 7, 2) := by decide +kernel
theorem dX2_overlap_57 : decode cX2_overlap 57 = .ok (.ifCond .ne 7, 3) := by decide +kernel
theorem dX2_overlap_60 : decode cX2_overlap 60 = .ok (.iconst 2, 1) := by decide +kernel
theorem dX2_overlap_61 : decode cX2_overlap 61 = .ok (.goto 4, 3) := by decide +kernel
theorem dX2_overlap_64 : decode cX2_overlap 64 = .ok (.iconst 3, 1) := by decide +kernel
theorem dX2_overlap_65 : decode cX2_overlap 65 = .ok (.ireturn, 1) := by decide +kernel
theorem dX2_meeting_0 : decode cX2_meeting 0 = .ok (.aload_n 0, 1) := by decide +kernel
theorem dX2_meeting_1 : decode cX2_meeting 1 = .ok (.iload_n 1, 1) := by decide +kernel
theorem dX2_meeting_2 : decode cX2_meeting 2 = .ok (.iload_n 2, 1) := by decide +kernel
theorem dX2_meeting_3 : decode cX2_meeting 3 = .ok (.iload_n 3, 1) := by decide +kernel
theorem dX2_meeting_4 : decode cX2_meeting 4 = .ok (.invokevirtual 38, 3) := by decide +kernel
theorem dX2_meeting_7 : decode cX2_meeting 7 = .ok (.aload_n 0, 1) := by decide +kernel
theorem dX2_meeting_8 : decode cX2_meeting 8 = .ok (.iload_n 1, 1) := by decide +kernel
theorem dX2_meeting_9 : decode cX2_meeting 9 = .ok (.iload_n 2, 1) := by decide +kernel
theorem dX2_meeting_10 : decode cX2_meeting 10 = .ok (.iload 4, 2) := by decide +kernel
theorem dX2_meeting_12 : decode cX2_meeting 12 = .ok (.invokevirtual 38, 3) := by decide +kernel
theorem dX2_meeting_15 : decode cX2_meeting 15 = .ok (.imul, 1) := by decide +kernel
theorem dX2_meeting_16 : decode cX2_meeting 16 = .ok (.ifCond .ge 25, 3) := by decide +kernel
theorem dX2_meeting_19 : decode cX2_meeting 19 = .ok (.aload_n 0, 1) := by decide +kernel
theorem dX2_meeting_20 : decode cX2_meeting 20 = .ok (.iload_n 3, 1) := by decide +kernel
theorem dX2_meeting_21 : decode cX2_meeting 21 = .ok (.iload 4, 2) := by decide +kernel
theorem dX2_meeting_23 : decode cX2_meeting 23 = .ok (.iload_n 1, 1) := by decide +kernel
theorem dX2_meeting_24 : decode cX2_meeting 24 = .ok (.invokevirtual 38, 3) := by decide +kernel
theorem dX2_meeting_27 : decode cX2_meeting 27 = .ok (.aload_n 0, 1) := by decide +kernel
theorem dX2_meeting_28 : decode cX2_meeting 28 = .ok (.iload_n 3, 1) := by decide +kernel
theorem dX2_meeting_29 : decode cX2_meeting 29 = .ok (.iload 4, 2) := by decide +kernel
theorem dX2_meeting_31 : decode cX2_meeting 31 = .ok (.iload_n 2, 1) := by decide +kernel
theorem dX2_meeting_32 : decode cX2_meeting 32 = .ok (.invokevirtual 38, 3) := by decide +kernel
theorem dX2_meeting_35 : decode cX2_meeting 35 = .ok (.imul, 1) := by decide +kernel
theorem dX2_meeting_36 : decode cX2_meeting 36 = .ok (.ifCond .ge 5, 3) := by decide +kernel
theorem dX2_meeting_39 : decode cX2_meeting 39 = .ok (.iconst 1, 1) := by decide +kernel
theorem dX2_meeting_40 : decode cX2_meeting 40 = .ok (.ireturn, 1) := by decide +kernel
theorem dX2_meeting_41 : decode cX2_meeting 41 = .ok (.aload_n 0, 1) := by decide +kernel
theorem dX2_meeting_42 : decode cX2_meeting 42 = .ok (.iload_n 1, 1) := by decide +kernel
theorem dX2_meeting_43 : decode cX2_meeting 43 = .ok (.iload_n 2, 1) := by decide +kernel
theorem dX2_meeting_44 : decode cX2_meeting 44 = .ok (.iload_n 3, 1) := by decide +kernel
theorem dX2_meeting_45 : decode cX2_meeting 45 = .ok (.invokevirtual 52, 3) := by decide +kernel
theorem dX2_meeting_48 : decode cX2_meeting 48 = .ok (.ifCond .ne 36, 3) := by decide +kernel
theorem dX2_meeting_51 : decode cX2_meeting 51 = .ok (.aload_n 0, 1) := by decide +kernel
theorem dX2_meeting_52 : decode cX2_meeting 52 = .ok (.iload_n 1, 1) := by decide +kernel
theorem dX2_meeting_53 : decode cX2_meeting 53 = .ok (.iload_n 2, 1) := by decide +kernel
theorem dX2_meeting_54 : decode cX2_meeting 54 = .ok (.iload 4, 2) := by decide +kernel
theorem dX2_meeting_56 : decode cX2_meeting 56 = .ok (.invokevirtual 52, 3) := by decide +kernel
theorem dX2_meeting_59 : decode cX2_meeting 59 = .ok (.ifCond .ne 25, 3) := by decide +kernel
theorem dX2_meeting_62 : decode cX2_meeting 62 = .ok (.aload_n 0, 1) := by decide +kernel
theorem dX2_meeting_63 : decode cX2_meeting 63 = .ok (.iload_n 3, 1) := by decide +kernel
theorem dX2_meeting_64 : decode cX2_meeting 64 = .ok (.iload 4, 2) := by decide +kernel
theorem dX2_meeting_66 : decode cX2_meeting 66 = .ok (.iload_n 1, 1) := by decide +kernel
theorem dX2_meeting_67 : decode cX2_meeting 67 = .ok (.invokevirtual 52, 3) := by decide +kernel
theorem dX2_meeting_70 : decode cX2_meeting 70 = .ok (.ifCond .ne 14, 3) := by decide +kernel
theorem dX2_meeting_73 : decode cX2_meeting 73 = .ok (.aload_n 0, 1) := by decide +kernel
theorem dX2_meeting_74 : decode cX2_meeting 74 = .ok (.iload_n 3, 1) := by decide +kernel
theorem dX2_meeting_75 : decode cX2_meeting 75 = .ok (.iload 4, 2) := by decide +kernel
theorem dX2_meeting_77 : decode cX2_meeting 77 = .ok (.iload_n 2, 1) := by decide +kernel
theorem dX2_meeting_78 : decode cX2_meeting 78 = .ok (.invokevirtual 52, 3) := by decide +kernel
theorem dX2_meeting_81 : decode cX2_meeting 81 = .ok (.ifCond .eq 7, 3) := by decide +kernel
theorem dX2_meeting_84 : decode cX2_meeting 84 = .ok (.iconst 1, 1) := by decide +kernel
theorem dX2_meeting_85 : decode cX2_meeting 85 = .ok (.goto 4, 3) := by decide +kernel
theorem dX2_meeting_88 : decode cX2_meeting 88 = .ok (.iconst 0, 1) := by decide +kernel
theorem dX2_meeting_89 : decode cX2_meeting 89 = .ok (.istore 5, 2) := by decide +kernel
theorem dX2_meeting_91 : decode cX2_meeting 91 = .ok (.iload 5, 2) := by decide +kernel
theorem dX2_meeting_93 : decode cX2_meeting 93 = .ok (.ifCond .eq 7, 3) := by decide +kernel
theorem dX2_meeting_96 : decode cX2_meeting 96 = .ok (.iconst 2, 1) := by decide +kernel
theorem dX2_meeting_97 : decode cX2_meeting 97 = .ok (.goto 4, 3) := by decide +kernel
theorem dX2_meeting_100 : decode cX2_meeting 100 = .ok (.iconst 0, 1) := by decide +kernel
theorem dX2_meeting_101 : decode cX2_meeting 101 = .ok (.ireturn, 1) := by decide +kernel
theorem dX2_earlier_0 : decode cX2_earlier 0 = .ok (.aload_n 0, 1) := by decide +kernel
theorem dX2_earlier_1 : decode cX2_earlier 1 = .ok (.iload_n 1, 1) := by decide +kernel
theorem dX2_earlier_2 : decode cX2_earlier 2 = .ok (.iload_n 2, 1) := by decide +kernel
theorem dX2_earlier_3 : decode cX2_earlier 3 = .ok (.invokevirtual 49, 3) := by decide +kernel
theorem dX2_earlier_6 : decode cX2_earlier 6 = .ok (.ifCond .gt 7, 3) := by decide +kernel
theorem dX2_earlier_9 : decode cX2_earlier 9 = .ok (.iload_n 1, 1) := by decide +kernel
theorem dX2_earlier_10 : decode cX2_earlier 10 = .ok (.goto 4, 3) := by decide +kernel
theorem dX2_earlier_13 : decode cX2_earlier 13 = .ok (.iload_n 2, 1) := by decide +kernel
theorem dX2_earlier_14 : decode cX2_earlier 14 = .ok (.ireturn, 1) := by decide +kernel
theorem dX2_later_0 : decode cX2_later 0 = .ok (.aload_n 0, 1) := by decide +kernel
theorem dX2_later_1 : decode cX2_later 1 = .ok (.iload_n 1, 1) := by decide +kernel
theorem dX2_later_2 : decode cX2_later 2 = .ok (.iload_n 2, 1) := by decide +kernel
theorem dX2_later_3 : decode cX2_later 3 = .ok (.invokevirtual 49, 3) := by decide +kernel
theorem dX2_later_6 : decode cX2_later 6 = .ok (.ifCond .gt 7, 3) := by decide +kernel
theorem dX2_later_9 : decode cX2_later 9 = .ok (.iload_n 2, 1) := by decide +kernel
theorem dX2_later_10 : decode cX2_later 10 = .ok (.goto 4, 3) := by decide +kernel
theorem dX2_later_13 : decode cX2_later 13 = .ok (.iload_n 1, 1) := by decide +kernel
theorem dX2_later_14 : decode cX2_later 14 = .ok (.ireturn, 1) := by decide +kernel
theorem dX2_compareAcross_0 : decode cX2_compareAcross 0 = .ok (.aload_n 0, 1) := by decide +kernel
theorem dX2_compareAcross_1 : decode cX2_compareAcross 1 = .ok (.getfield 9, 3) := by decide +kernel
theorem dX2_compareAcross_4 : decode cX2_compareAcross 4 = .ok (.iload_n 1, 1) := by decide +kernel
theorem dX2_compareAcross_5 : decode cX2_compareAcross 5 = .ok (.iaload, 1) := by decide +kernel
theorem dX2_compareAcross_6 : decode cX2_compareAcross 6 = .ok (.aload_n 0, 1) := by decide +kernel
theorem dX2_compareAcross_7 : decode cX2_compareAcross 7 = .ok (.getfield 9, 3) := by decide +kernel
theorem dX2_compareAcross_10 : decode cX2_compareAcross 10 = .ok (.iload_n 2, 1) := by decide +kernel
theorem dX2_compareAcross_11 : decode cX2_compareAcross 11 = .ok (.iaload, 1) := by decide +kernel
theorem dX2_compareAcross_12 : decode cX2_compareAcross 12 = .ok (.isub, 1) := by decide +kernel
theorem dX2_compareAcross_13 : decode cX2_compareAcross 13 = .ok (.i2l, 1) := by decide +kernel
theorem dX2_compareAcross_14 : decode cX2_compareAcross 14 = .ok (.invokestatic 30, 3) := by decide +kernel
theorem dX2_compareAcross_17 : decode cX2_compareAcross 17 = .ok (.istore_n 3, 1) := by decide +kernel
theorem dX2_compareAcross_18 : decode cX2_compareAcross 18 = .ok (.iload_n 3, 1) := by decide +kernel
theorem dX2_compareAcross_19 : decode cX2_compareAcross 19 = .ok (.ifCond .eq 7, 3) := by decide +kernel
theorem dX2_compareAcross_22 : decode cX2_compareAcross 22 = .ok (.iload_n 3, 1) := by decide +kernel
theorem dX2_compareAcross_23 : decode cX2_compareAcross 23 = .ok (.goto 20, 3) := by decide +kernel
theorem dX2_compareAcross_26 : decode cX2_compareAcross 26 = .ok (.aload_n 0, 1) := by decide +kernel
theorem dX2_compareAcross_27 : decode cX2_compareAcross 27 = .ok (.getfield 15, 3) := by decide +kernel
theorem dX2_compareAcross_30 : decode cX2_compareAcross 30 = .ok (.iload_n 1, 1) := by decide +kernel
theorem dX2_compareAcross_31 : decode cX2_compareAcross 31 = .ok (.iaload, 1) := by decide +kernel
theorem dX2_compareAcross_32 : decode cX2_compareAcross 32 = .ok (.aload_n 0, 1) := by decide +kernel
theorem dX2_compareAcross_33 : decode cX2_compareAcross 33 = .ok (.getfield 15, 3) := by decide +kernel
theorem dX2_compareAcross_36 : decode cX2_compareAcross 36 = .ok (.iload_n 2, 1) := by decide +kernel
theorem dX2_compareAcross_37 : decode cX2_compareAcross 37 = .ok (.iaload, 1) := by decide +kernel
theorem dX2_compareAcross_38 : decode cX2_compareAcross 38 = .ok (.isub, 1) := by decide +kernel
theorem dX2_compareAcross_39 : decode cX2_compareAcross 39 = .ok (.i2l, 1) := by decide +kernel
theorem dX2_compareAcross_40 : decode cX2_compareAcross 40 = .ok (.invokestatic 30, 3) := by decide +kernel
theorem dX2_compareAcross_43 : decode cX2_compareAcross 43 = .ok (.ireturn, 1) := by decide +kernel
theorem dX2_compareRound_0 : decode cX2_compareRound 0 = .ok (.aload_n 0, 1) := by decide +kernel
theorem dX2_compareRound_1 : decode cX2_compareRound 1 = .ok (.iload_n 1, 1) := by decide +kernel
theorem dX2_compareRound_2 : decode cX2_compareRound 2 = .ok (.iload_n 2, 1) := by decide +kernel
theorem dX2_compareRound_3 : decode cX2_compareRound 3 = .ok (.invokevirtual 56, 3) := by decide +kernel
theorem dX2_compareRound_6 : decode cX2_compareRound 6 = .ok (.istore 4, 2) := by decide +kernel
theorem dX2_compareRound_8 : decode cX2_compareRound 8 = .ok (.iload 4, 2) := by decide +kernel
theorem dX2_compareRound_10 : decode cX2_compareRound 10 = .ok (.aload_n 0, 1) := by decide +kernel
theorem dX2_compareRound_11 : decode cX2_compareRound 11 = .ok (.iload_n 1, 1) := by decide +kernel
theorem dX2_compareRound_12 : decode cX2_compareRound 12 = .ok (.iload_n 3, 1) := by decide +kernel
theorem dX2_compareRound_13 : decode cX2_compareRound 13 = .ok (.invokevirtual 56, 3) := by decide +kernel
theorem dX2_compareRound_16 : decode cX2_compareRound 16 = .ok (.isub, 1) := by decide +kernel
theorem dX2_compareRound_17 : decode cX2_compareRound 17 = .ok (.i2l, 1) := by decide +kernel
theorem dX2_compareRound_18 : decode cX2_compareRound 18 = .ok (.invokestatic 30, 3) := by decide +kernel
theorem dX2_compareRound_21 : decode cX2_compareRound 21 = .ok (.istore 5, 2) := by decide +kernel
theorem dX2_compareRound_23 : decode cX2_compareRound 23 = .ok (.iload 5, 2) := by decide +kernel
theorem dX2_compareRound_25 : decode cX2_compareRound 25 = .ok (.ifCond .ne 8, 3) := by decide +kernel
theorem dX2_compareRound_28 : decode cX2_compareRound 28 = .ok (.iload 4, 2) := by decide +kernel
theorem dX2_compareRound_30 : decode cX2_compareRound 30 = .ok (.ifCond .ne 6, 3) := by decide +kernel
theorem dX2_compareRound_33 : decode cX2_compareRound 33 = .ok (.iload 5, 2) := by decide +kernel
theorem dX2_compareRound_35 : decode cX2_compareRound 35 = .ok (.ireturn, 1) := by decide +kernel
theorem dX2_compareRound_36 : decode cX2_compareRound 36 = .ok (.aload_n 0, 1) := by decide +kernel
theorem dX2_compareRound_37 : decode cX2_compareRound 37 = .ok (.iload_n 1, 1) := by decide +kernel
theorem dX2_compareRound_38 : decode cX2_compareRound 38 = .ok (.iload_n 3, 1) := by decide +kernel
theorem dX2_compareRound_39 : decode cX2_compareRound 39 = .ok (.iload_n 2, 1) := by decide +kernel
theorem dX2_compareRound_40 : decode cX2_compareRound 40 = .ok (.invokevirtual 38, 3) := by decide +kernel
theorem dX2_compareRound_43 : decode cX2_compareRound 43 = .ok (.istore 6, 2) := by decide +kernel
theorem dX2_compareRound_45 : decode cX2_compareRound 45 = .ok (.iload 6, 2) := by decide +kernel
theorem dX2_compareRound_47 : decode cX2_compareRound 47 = .ok (.ifCond .eq 8, 3) := by decide +kernel
theorem dX2_compareRound_50 : decode cX2_compareRound 50 = .ok (.iload 6, 2) := by decide +kernel
theorem dX2_compareRound_52 : decode cX2_compareRound 52 = .ok (.goto 19, 3) := by decide +kernel
theorem dX2_compareRound_55 : decode cX2_compareRound 55 = .ok (.aload_n 0, 1) := by decide +kernel
theorem dX2_compareRound_56 : decode cX2_compareRound 56 = .ok (.iload_n 1, 1) := by decide +kernel
theorem dX2_compareRound_57 : decode cX2_compareRound 57 = .ok (.iload_n 2, 1) := by decide +kernel
theorem dX2_compareRound_58 : decode cX2_compareRound 58 = .ok (.invokevirtual 59, 3) := by decide +kernel
theorem dX2_compareRound_61 : decode cX2_compareRound 61 = .ok (.aload_n 0, 1) := by decide +kernel
theorem dX2_compareRound_62 : decode cX2_compareRound 62 = .ok (.iload_n 1, 1) := by decide +kernel
theorem dX2_compareRound_63 : decode cX2_compareRound 63 = .ok (.iload_n 3, 1) := by decide +kernel
theorem dX2_compareRound_64 : decode cX2_compareRound 64 = .ok (.invokevirtual 59, 3) := by decide +kernel
theorem dX2_compareRound_67 : decode cX2_compareRound 67 = .ok (.lsub, 1) := by decide +kernel
theorem dX2_compareRound_68 : decode cX2_compareRound 68 = .ok (.invokestatic 30, 3) := by decide +kernel
theorem dX2_compareRound_71 : decode cX2_compareRound 71 = .ok (.ireturn, 1) := by decide +kernel
theorem dX2_partRound_0 : decode cX2_partRound 0 = .ok (.aload_n 0, 1) := by decide +kernel
theorem dX2_partRound_1 : decode cX2_partRound 1 = .ok (.iload_n 1, 1) := by decide +kernel
theorem dX2_partRound_2 : decode cX2_partRound 2 = .ok (.iload_n 2, 1) := by decide +kernel
theorem dX2_partRound_3 : decode cX2_partRound 3 = .ok (.invokevirtual 26, 3) := by decide +kernel
theorem dX2_partRound_6 : decode cX2_partRound 6 = .ok (.ifCond .eq 5, 3) := by decide +kernel
theorem dX2_partRound_9 : decode cX2_partRound 9 = .ok (.iconst 0, 1) := by decide +kernel
theorem dX2_partRound_10 : decode cX2_partRound 10 = .ok (.ireturn, 1) := by decide +kernel
theorem dX2_partRound_11 : decode cX2_partRound 11 = .ok (.aload_n 0, 1) := by decide +kernel
theorem dX2_partRound_12 : decode cX2_partRound 12 = .ok (.getfield 15, 3) := by decide +kernel
theorem dX2_partRound_15 : decode cX2_partRound 15 = .ok (.iload_n 2, 1) := by decide +kernel
theorem dX2_partRound_16 : decode cX2_partRound 16 = .ok (.iaload, 1) := by decide +kernel
theorem dX2_partRound_17 : decode cX2_partRound 17 = .ok (.aload_n 0, 1) := by decide +kernel
theorem dX2_partRound_18 : decode cX2_partRound 18 = .ok (.getfield 15, 3) := by decide +kernel
theorem dX2_partRound_21 : decode cX2_partRound 21 = .ok (.iload_n 1, 1) := by decide +kernel
theorem dX2_partRound_22 : decode cX2_partRound 22 = .ok (.iaload, 1) := by decide +kernel
theorem dX2_partRound_23 : decode cX2_partRound 23 = .ok (.if_icmp .gt 33, 3) := by decide +kernel
theorem dX2_partRound_26 : decode cX2_partRound 26 = .ok (.aload_n 0, 1) := by decide +kernel
theorem dX2_partRound_27 : decode cX2_partRound 27 = .ok (.getfield 15, 3) := by decide +kernel
theorem dX2_partRound_30 : decode cX2_partRound 30 = .ok (.iload_n 2, 1) := by decide +kernel
theorem dX2_partRound_31 : decode cX2_partRound 31 = .ok (.iaload, 1) := by decide +kernel
theorem dX2_partRound_32 : decode cX2_partRound 32 = .ok (.aload_n 0, 1) := by decide +kernel
theorem dX2_partRound_33 : decode cX2_partRound 33 = .ok (.getfield 15, 3) := by decide +kernel
theorem dX2_partRound_36 : decode cX2_partRound 36 = .ok (.iload_n 1, 1) := by decide +kernel
theorem dX2_partRound_37 : decode cX2_partRound 37 = .ok (.iaload, 1) := by decide +kernel
theorem dX2_partRound_38 : decode cX2_partRound 38 = .ok (.if_icmp .ne 22, 3) := by decide +kernel
theorem dX2_partRound_41 : decode cX2_partRound 41 = .ok (.aload_n 0, 1) := by decide +kernel
theorem dX2_partRound_42 : decode cX2_partRound 42 = .ok (.getfield 9, 3) := by decide +kernel
theorem dX2_partRound_45 : decode cX2_partRound 45 = .ok (.iload_n 2, 1) := by decide +kernel
theorem dX2_partRound_46 : decode cX2_partRound 46 = .ok (.iaload, 1) := by decide +kernel
theorem dX2_partRound_47 : decode cX2_partRound 47 = .ok (.aload_n 0, 1) := by decide +kernel
theorem dX2_partRound_48 : decode cX2_partRound 48 = .ok (.getfield 9, 3) := by decide +kernel
theorem dX2_partRound_51 : decode cX2_partRound 51 = .ok (.iload_n 1, 1) := by decide +kernel
theorem dX2_partRound_52 : decode cX2_partRound 52 = .ok (.iaload, 1) := by decide +kernel
theorem dX2_partRound_53 : decode cX2_partRound 53 = .ok (.if_icmp .le 7, 3) := by decide +kernel
theorem dX2_partRound_56 : decode cX2_partRound 56 = .ok (.iconst 1, 1) := by decide +kernel
theorem dX2_partRound_57 : decode cX2_partRound 57 = .ok (.goto 4, 3) := by decide +kernel
theorem dX2_partRound_60 : decode cX2_partRound 60 = .ok (.iconst 2, 1) := by decide +kernel
theorem dX2_partRound_61 : decode cX2_partRound 61 = .ok (.ireturn, 1) := by decide +kernel
