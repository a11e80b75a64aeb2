theorem dX0_init_0 : decode cX0_init 0 = .ok (.aload_n 0, 1) := by decide +kernel
theorem dX0_init_1 : decode cX0_init 1 = .ok (.invokespecial 3, 3) := by decide +kernel
theorem dX0_init_4 : decode cX0_init 4 = .ok (.aload_n 0, 1) := by decide +kernel
theorem dX0_init_5 : decode cX0_init 5 = .ok (.bipush 12, 2) := by decide +kernel
theorem dX0_init_7 : decode cX0_init 7 = .ok (.newarray .long, 2) := by decide +kernel
theorem dX0_init_9 : decode cX0_init 9 = .ok (.putfield 9, 3) := by decide +kernel
theorem dX0_init_12 : decode cX0_init 12 = .ok (.aload_n 0, 1) := by decide +kernel
theorem dX0_init_13 : decode cX0_init 13 = .ok (.bipush 12, 2) := by decide +kernel
theorem dX0_init_15 : decode cX0_init 15 = .ok (.newarray .long, 2) := by decide +kernel
theorem dX0_init_17 : decode cX0_init 17 = .ok (.putfield 15, 3) := by decide +kernel
theorem dX0_init_20 : decode cX0_init 20 = .ok (.aload_n 0, 1) := by decide +kernel
theorem dX0_init_21 : decode cX0_init 21 = .ok (.bipush 12, 2) := by decide +kernel
theorem dX0_init_23 : decode cX0_init 23 = .ok (.newarray .long, 2) := by decide +kernel
theorem dX0_init_25 : decode cX0_init 25 = .ok (.putfield 18, 3) := by decide +kernel
theorem dX0_init_28 : decode cX0_init 28 = .ok (.aload_n 0, 1) := by decide +kernel
theorem dX0_init_29 : decode cX0_init 29 = .ok (.bipush 12, 2) := by decide +kernel
theorem dX0_init_31 : decode cX0_init 31 = .ok (.newarray .int, 2) := by decide +kernel
theorem dX0_init_33 : decode cX0_init 33 = .ok (.putfield 21, 3) := by decide +kernel
theorem dX0_init_36 : decode cX0_init 36 = .ok (.return_, 1) := by decide +kernel
theorem dX0_add_0 : decode cX0_add 0 = .ok (.aload_n 0, 1) := by decide +kernel
theorem dX0_add_1 : decode cX0_add 1 = .ok (.getfield 9, 3) := by decide +kernel
theorem dX0_add_4 : decode cX0_add 4 = .ok (.aload_n 0, 1) := by decide +kernel
theorem dX0_add_5 : decode cX0_add 5 = .ok (.getfield 25, 3) := by decide +kernel
theorem dX0_add_8 : decode cX0_add 8 = .ok (.iload_n 2, 1) := by decide +kernel
theorem dX0_add_9 : decode cX0_add 9 = .ok (.iload 4, 2) := by decide +kernel
theorem dX0_add_11 : decode cX0_add 11 = .ok (.isub, 1) := by decide +kernel
theorem dX0_add_12 : decode cX0_add 12 = .ok (.i2l, 1) := by decide +kernel
theorem dX0_add_13 : decode cX0_add 13 = .ok (.lastore, 1) := by decide +kernel
theorem dX0_add_14 : decode cX0_add 14 = .ok (.aload_n 0, 1) := by decide +kernel
theorem dX0_add_15 : decode cX0_add 15 = .ok (.getfield 15, 3) := by decide +kernel
theorem dX0_add_18 : decode cX0_add 18 = .ok (.aload_n 0, 1) := by decide +kernel
theorem dX0_add_19 : decode cX0_add 19 = .ok (.getfield 25, 3) := by decide +kernel
theorem dX0_add_22 : decode cX0_add 22 = .ok (.iload_n 3, 1) := by decide +kernel
theorem dX0_add_23 : decode cX0_add 23 = .ok (.iload_n 1, 1) := by decide +kernel
theorem dX0_add_24 : decode cX0_add 24 = .ok (.isub, 1) := by decide +kernel
theorem dX0_add_25 : decode cX0_add 25 = .ok (.i2l, 1) := by decide +kernel
theorem dX0_add_26 : decode cX0_add 26 = .ok (.lastore, 1) := by decide +kernel
theorem dX0_add_27 : decode cX0_add 27 = .ok (.aload_n 0, 1) := by decide +kernel
theorem dX0_add_28 : decode cX0_add 28 = .ok (.getfield 18, 3) := by decide +kernel
theorem dX0_add_31 : decode cX0_add 31 = .ok (.aload_n 0, 1) := by decide +kernel
theorem dX0_add_32 : decode cX0_add 32 = .ok (.getfield 25, 3) := by decide +kernel
theorem dX0_add_35 : decode cX0_add 35 = .ok (.iload_n 1, 1) := by decide +kernel
theorem dX0_add_36 : decode cX0_add 36 = .ok (.i2l, 1) := by decide +kernel
theorem dX0_add_37 : decode cX0_add 37 = .ok (.iload 4, 2) := by decide +kernel
theorem dX0_add_39 : decode cX0_add 39 = .ok (.i2l, 1) := by decide +kernel
theorem dX0_add_40 : decode cX0_add 40 = .ok (.lmul, 1) := by decide +kernel
theorem dX0_add_41 : decode cX0_add 41 = .ok (.iload_n 3, 1) := by decide +kernel
theorem dX0_add_42 : decode cX0_add 42 = .ok (.i2l, 1) := by decide +kernel
theorem dX0_add_43 : decode cX0_add 43 = .ok (.iload_n 2, 1) := by decide +kernel
theorem dX0_add_44 : decode cX0_add 44 = .ok (.i2l, 1) := by decide +kernel
theorem dX0_add_45 : decode cX0_add 45 = .ok (.lmul, 1) := by decide +kernel
theorem dX0_add_46 : decode cX0_add 46 = .ok (.lsub, 1) := by decide +kernel
theorem dX0_add_47 : decode cX0_add 47 = .ok (.lastore, 1) := by decide +kernel
theorem dX0_add_48 : decode cX0_add 48 = .ok (.aload_n 0, 1) := by decide +kernel
theorem dX0_add_49 : decode cX0_add 49 = .ok (.dup, 1) := by decide +kernel
theorem dX0_add_50 : decode cX0_add 50 = .ok (.getfield 25, 3) := by decide +kernel
theorem dX0_add_53 : decode cX0_add 53 = .ok (.iconst 1, 1) := by decide +kernel
theorem dX0_add_54 : decode cX0_add 54 = .ok (.iadd, 1) := by decide +kernel
theorem dX0_add_55 : decode cX0_add 55 = .ok (.putfield 25, 3) := by decide +kernel
theorem dX0_add_58 : decode cX0_add 58 = .ok (.aload_n 0, 1) := by decide +kernel
theorem dX0_add_59 : decode cX0_add 59 = .ok (.getfield 25, 3) := by decide +kernel
theorem dX0_add_62 : decode cX0_add 62 = .ok (.iconst 1, 1) := by decide +kernel
theorem dX0_add_63 : decode cX0_add 63 = .ok (.isub, 1) := by decide +kernel
theorem dX0_add_64 : decode cX0_add 64 = .ok (.ireturn, 1) := by decide +kernel
theorem dX0_survey_0 : decode cX0_survey 0 = .ok (.aload_n 0, 1) := by decide +kernel
theorem dX0_survey_1 : decode cX0_survey 1 = .ok (.iload_n 1, 1) := by decide +kernel
theorem dX0_survey_2 : decode cX0_survey 2 = .ok (.invokevirtual 29, 3) := by decide +kernel
theorem dX0_survey_5 : decode cX0_survey 5 = .ok (.aload_n 0, 1) := by decide +kernel
theorem dX0_survey_6 : decode cX0_survey 6 = .ok (.iconst 0, 1) := by decide +kernel
theorem dX0_survey_7 : decode cX0_survey 7 = .ok (.putfield 33, 3) := by decide +kernel
theorem dX0_survey_10 : decode cX0_survey 10 = .ok (.aload_n 0, 1) := by decide +kernel
theorem dX0_survey_11 : decode cX0_survey 11 = .ok (.iconst 0, 1) := by decide +kernel
theorem dX0_survey_12 : decode cX0_survey 12 = .ok (.putfield 36, 3) := by decide +kernel
theorem dX0_survey_15 : decode cX0_survey 15 = .ok (.aload_n 0, 1) := by decide +kernel
theorem dX0_survey_16 : decode cX0_survey 16 = .ok (.iconst 0, 1) := by decide +kernel
theorem dX0_survey_17 : decode cX0_survey 17 = .ok (.putfield 39, 3) := by decide +kernel
theorem dX0_survey_20 : decode cX0_survey 20 = .ok (.iconst 0, 1) := by decide +kernel
theorem dX0_survey_21 : decode cX0_survey 21 = .ok (.istore_n 2, 1) := by decide +kernel
theorem dX0_survey_22 : decode cX0_survey 22 = .ok (.iload_n 2, 1) := by decide +kernel
theorem dX0_survey_23 : decode cX0_survey 23 = .ok (.aload_n 0, 1) := by decide +kernel
theorem dX0_survey_24 : decode cX0_survey 24 = .ok (.getfield 42, 3) := by decide +kernel
theorem dX0_survey_27 : decode cX0_survey 27 = .ok (.if_icmp .ge 28, 3) := by decide +kernel
theorem dX0_survey_30 : decode cX0_survey 30 = .ok (.iconst 0, 1) := by decide +kernel
theorem dX0_survey_31 : decode cX0_survey 31 = .ok (.istore_n 3, 1) := by decide +kernel
theorem dX0_survey_32 : decode cX0_survey 32 = .ok (.iload_n 3, 1) := by decide +kernel
theorem dX0_survey_33 : decode cX0_survey 33 = .ok (.iload_n 2, 1) := by decide +kernel
theorem dX0_survey_34 : decode cX0_survey 34 = .ok (.if_icmp .ge 15, 3) := by decide +kernel
theorem dX0_survey_37 : decode cX0_survey 37 = .ok (.aload_n 0, 1) := by decide +kernel
theorem dX0_survey_38 : decode cX0_survey 38 = .ok (.iload_n 3, 1) := by decide +kernel
theorem dX0_survey_39 : decode cX0_survey 39 = .ok (.iload_n 2, 1) := by decide +kernel
theorem dX0_survey_40 : decode cX0_survey 40 = .ok (.invokevirtual 45, 3) := by decide +kernel
theorem dX0_survey_43 : decode cX0_survey 43 = .ok (.iinc 3 1, 3) := by decide +kernel
theorem dX0_survey_46 : decode cX0_survey 46 = .ok (.goto (-14), 3) := by decide +kernel
theorem dX0_survey_49 : decode cX0_survey 49 = .ok (.iinc 2 1, 3) := by decide +kernel
theorem dX0_survey_52 : decode cX0_survey 52 = .ok (.goto (-30), 3) := by decide +kernel
theorem dX0_survey_55 : decode cX0_survey 55 = .ok (.return_, 1) := by decide +kernel
theorem dX0_cells_0 : decode cX0_cells 0 = .ok (.iconst 1, 1) := by decide +kernel
theorem dX0_cells_1 : decode cX0_cells 1 = .ok (.aload_n 0, 1) := by decide +kernel
theorem dX0_cells_2 : decode cX0_cells 2 = .ok (.getfield 42, 3) := by decide +kernel
theorem dX0_cells_5 : decode cX0_cells 5 = .ok (.iadd, 1) := by decide +kernel
theorem dX0_cells_6 : decode cX0_cells 6 = .ok (.aload_n 0, 1) := by decide +kernel
theorem dX0_cells_7 : decode cX0_cells 7 = .ok (.getfield 36, 3) := by decide +kernel
theorem dX0_cells_10 : decode cX0_cells 10 = .ok (.iadd, 1) := by decide +kernel
theorem dX0_cells_11 : decode cX0_cells 11 = .ok (.aload_n 0, 1) := by decide +kernel
theorem dX0_cells_12 : decode cX0_cells 12 = .ok (.getfield 33, 3) := by decide +kernel
theorem dX0_cells_15 : decode cX0_cells 15 = .ok (.isub, 1) := by decide +kernel
theorem dX0_cells_16 : decode cX0_cells 16 = .ok (.ireturn, 1) := by decide +kernel
theorem dX0_closedCells_0 : decode cX0_closedCells 0 = .ok (.aload_n 0, 1) := by decide +kernel
theorem dX0_closedCells_1 : decode cX0_closedCells 1 = .ok (.getfield 33, 3) := by decide +kernel
theorem dX0_closedCells_4 : decode cX0_closedCells 4 = .ok (.ifCond .ne 7, 3) := by decide +kernel
theorem dX0_closedCells_7 : decode cX0_closedCells 7 = .ok (.iconst 0, 1) := by decide +kernel
theorem dX0_closedCells_8 : decode cX0_closedCells 8 = .ok (.goto 14, 3) := by decide +kernel
theorem dX0_closedCells_11 : decode cX0_closedCells 11 = .ok (.aload_n 0, 1) := by decide +kernel
theorem dX0_closedCells_12 : decode cX0_closedCells 12 = .ok (.invokevirtual 49, 3) := by decide +kernel
theorem dX0_closedCells_15 : decode cX0_closedCells 15 = .ok (.iconst 2, 1) := by decide +kernel
theorem dX0_closedCells_16 : decode cX0_closedCells 16 = .ok (.aload_n 0, 1) := by decide +kernel
theorem dX0_closedCells_17 : decode cX0_closedCells 17 = .ok (.getfield 42, 3) := by decide +kernel
theorem dX0_closedCells_20 : decode cX0_closedCells 20 = .ok (.imul, 1) := by decide +kernel
theorem dX0_closedCells_21 : decode cX0_closedCells 21 = .ok (.isub, 1) := by decide +kernel
theorem dX0_closedCells_22 : decode cX0_closedCells 22 = .ok (.ireturn, 1) := by decide +kernel
theorem dX0_gatherDifferent_0 : decode cX0_gatherDifferent 0 = .ok (.aload_n 0, 1) := by decide +kernel
theorem dX0_gatherDifferent_1 : decode cX0_gatherDifferent 1 = .ok (.iconst 0, 1) := by decide +kernel
theorem dX0_gatherDifferent_2 : decode cX0_gatherDifferent 2 = .ok (.putfield 42, 3) := by decide +kernel
theorem dX0_gatherDifferent_5 : decode cX0_gatherDifferent 5 = .ok (.iconst 0, 1) := by decide +kernel
theorem dX0_gatherDifferent_6 : decode cX0_gatherDifferent 6 = .ok (.istore_n 2, 1) := by decide +kernel
theorem dX0_gatherDifferent_7 : decode cX0_gatherDifferent 7 = .ok (.iload_n 2, 1) := by decide +kernel
theorem dX0_gatherDifferent_8 : decode cX0_gatherDifferent 8 = .ok (.iload_n 1, 1) := by decide +kernel
theorem dX0_gatherDifferent_9 : decode cX0_gatherDifferent 9 = .ok (.if_icmp .ge 37, 3) := by decide +kernel
theorem dX0_gatherDifferent_12 : decode cX0_gatherDifferent 12 = .ok (.aload_n 0, 1) := by decide +kernel
theorem dX0_gatherDifferent_13 : decode cX0_gatherDifferent 13 = .ok (.iload_n 2, 1) := by decide +kernel
theorem dX0_gatherDifferent_14 : decode cX0_gatherDifferent 14 = .ok (.invokevirtual 53, 3) := by decide +kernel
theorem dX0_gatherDifferent_17 : decode cX0_gatherDifferent 17 = .ok (.ifCond .eq 23, 3) := by decide +kernel
theorem dX0_gatherDifferent_20 : decode cX0_gatherDifferent 20 = .ok (.aload_n 0, 1) := by decide +kernel
theorem dX0_gatherDifferent_21 : decode cX0_gatherDifferent 21 = .ok (.getfield 21, 3) := by decide +kernel
theorem dX0_gatherDifferent_24 : decode cX0_gatherDifferent 24 = .ok (.aload_n 0, 1) := by decide +kernel
theorem dX0_gatherDifferent_25 : decode cX0_gatherDifferent 25 = .ok (.getfield 42, 3) := by decide +kernel
theorem dX0_gatherDifferent_28 : decode cX0_gatherDifferent 28 = .ok (.iload_n 2, 1) := by decide +kernel
theorem dX0_gatherDifferent_29 : decode cX0_gatherDifferent 29 = .ok (.iastore, 1) := by decide +kernel
theorem dX0_gatherDifferent_30 : decode cX0_gatherDifferent 30 = .ok (.aload_n 0, 1) := by decide +kernel
theorem dX0_gatherDifferent_31 : decode cX0_gatherDifferent 31 = .ok (.dup, 1) := by decide +kernel
theorem dX0_gatherDifferent_32 : decode cX0_gatherDifferent 32 = .ok (.getfield 42, 3) := by decide +kernel
theorem dX0_gatherDifferent_35 : decode cX0_gatherDifferent 35 = .ok (.iconst 1, 1) := by decide +kernel
theorem dX0_gatherDifferent_36 : decode cX0_gatherDifferent 36 = .ok (.iadd, 1) := by decide +kernel
theorem dX0_gatherDifferent_37 : decode cX0_gatherDifferent 37 = .ok (.putfield 42, 3) := by decide +kernel
theorem dX0_gatherDifferent_40 : decode cX0_gatherDifferent 40 = .ok (.iinc 2 1, 3) := by decide +kernel
theorem dX0_gatherDifferent_43 : decode cX0_gatherDifferent 43 = .ok (.goto (-36), 3) := by decide +kernel
theorem dX0_gatherDifferent_46 : decode cX0_gatherDifferent 46 = .ok (.return_, 1) := by decide +kernel
theorem dX0_isNew_0 : decode cX0_isNew 0 = .ok (.iconst 0, 1) := by decide +kernel
theorem dX0_isNew_1 : decode cX0_isNew 1 = .ok (.istore_n 2, 1) := by decide +kernel
theorem dX0_isNew_2 : decode cX0_isNew 2 = .ok (.iload_n 2, 1) := by decide +kernel
theorem dX0_isNew_3 : decode cX0_isNew 3 = .ok (.aload_n 0, 1) := by decide +kernel
theorem dX0_isNew_4 : decode cX0_isNew 4 = .ok (.getfield 42, 3) := by decide +kernel
theorem dX0_isNew_7 : decode cX0_isNew 7 = .ok (.if_icmp .ge 51, 3) := by decide +kernel
theorem dX0_isNew_10 : decode cX0_isNew 10 = .ok (.aload_n 0, 1) := by decide +kernel
theorem dX0_isNew_11 : decode cX0_isNew 11 = .ok (.getfield 21, 3) := by decide +kernel
theorem dX0_isNew_14 : decode cX0_isNew 14 = .ok (.iload_n 2, 1) := by decide +kernel
theorem dX0_isNew_15 : decode cX0_isNew 15 = .ok (.iaload, 1) := by decide +kernel
theorem dX0_isNew_16 : decode cX0_isNew 16 = .ok (.istore_n 3, 1) := by decide +kernel
theorem dX0_isNew_17 : decode cX0_isNew 17 = .ok (.aload_n 0, 1) := by decide +kernel
theorem dX0_isNew_18 : decode cX0_isNew 18 = .ok (.iload_n 3, 1) := by decide +kernel
theorem dX0_isNew_19 : decode cX0_isNew 19 = .ok (.iload_n 1, 1) := by decide +kernel
theorem dX0_isNew_20 : decode cX0_isNew 20 = .ok (.invokevirtual 57, 3) := by decide +kernel
theorem dX0_isNew_23 : decode cX0_isNew 23 = .ok (.lconst 0, 1) := by decide +kernel
theorem dX0_isNew_24 : decode cX0_isNew 24 = .ok (.lcmp, 1) := by decide +kernel
theorem dX0_isNew_25 : decode cX0_isNew 25 = .ok (.ifCond .ne 27, 3) := by decide +kernel
theorem dX0_isNew_28 : decode cX0_isNew 28 = .ok (.aload_n 0, 1) := by decide +kernel
theorem dX0_isNew_29 : decode cX0_isNew 29 = .ok (.iload_n 3, 1) := by decide +kernel
theorem dX0_isNew_30 : decode cX0_isNew 30 = .ok (.iload_n 1, 1) := by decide +kernel
theorem dX0_isNew_31 : decode cX0_isNew 31 = .ok (.invokevirtual 61, 3) := by decide +kernel
theorem dX0_isNew_34 : decode cX0_isNew 34 = .ok (.lconst 0, 1) := by decide +kernel
theorem dX0_isNew_35 : decode cX0_isNew 35 = .ok (.lcmp, 1) := by decide +kernel
theorem dX0_isNew_36 : decode cX0_isNew 36 = .ok (.ifCond .ne 16, 3) := by decide +kernel
theorem dX0_isNew_39 : decode cX0_isNew 39 = .ok (.aload_n 0, 1) := by decide +kernel
theorem dX0_isNew_40 : decode cX0_isNew 40 = .ok (.iload_n 3, 1) := by decide +kernel
theorem dX0_isNew_41 : decode cX0_isNew 41 = .ok (.iload_n 1, 1) := by decide +kernel
theorem dX0_isNew_42 : decode cX0_isNew 42 = .ok (.invokevirtual 64, 3) := by decide +kernel
theorem dX0_isNew_45 : decode cX0_isNew 45 = .ok (.lconst 0, 1) := by decide +kernel
theorem dX0_isNew_46 : decode cX0_isNew 46 = .ok (.lcmp, 1) := by decide +kernel
theorem dX0_isNew_47 : decode cX0_isNew 47 = .ok (.ifCond .ne 5, 3) := by decide +kernel
theorem dX0_isNew_50 : decode cX0_isNew 50 = .ok (.iconst 0, 1) := by decide +kernel
theorem dX0_isNew_51 : decode cX0_isNew 51 = .ok (.ireturn, 1) := by decide +kernel
theorem dX0_isNew_52 : decode cX0_isNew 52 = .ok (.iinc 2 1, 3) := by decide +kernel
theorem dX0_isNew_55 : decode cX0_isNew 55 = .ok (.goto (-53), 3) := by decide +kernel
theorem dX0_isNew_58 : decode cX0_isNew 58 = .ok (.iconst 1, 1) := by decide +kernel
theorem dX0_isNew_59 : decode cX0_isNew 59 = .ok (.ireturn, 1) := by decide +kernel
theorem dX0_surveyMeet_0 : decode cX0_surveyMeet 0 = .ok (.aload_n 0, 1) := by decide +kernel
theorem dX0_surveyMeet_1 : decode cX0_surveyMeet 1 = .ok (.aload_n 0, 1) := by decide +kernel
theorem dX0_surveyMeet_2 : decode cX0_surveyMeet 2 = .ok (.getfield 21, 3) := by decide +kernel
theorem dX0_surveyMeet_5 : decode cX0_surveyMeet 5 = .ok (.iload_n 1, 1) := by decide +kernel
theorem dX0_surveyMeet_6 : decode cX0_surveyMeet 6 = .ok (.iaload, 1) := by decide +kernel
theorem dX0_surveyMeet_7 : decode cX0_surveyMeet 7 = .ok (.aload_n 0, 1) := by decide +kernel
theorem dX0_surveyMeet_8 : decode cX0_surveyMeet 8 = .ok (.getfield 21, 3) := by decide +kernel
theorem dX0_surveyMeet_11 : decode cX0_surveyMeet 11 = .ok (.iload_n 2, 1) := by decide +kernel
theorem dX0_surveyMeet_12 : decode cX0_surveyMeet 12 = .ok (.iaload, 1) := by decide +kernel
theorem dX0_surveyMeet_13 : decode cX0_surveyMeet 13 = .ok (.invokevirtual 57, 3) := by decide +kernel
theorem dX0_surveyMeet_16 : decode cX0_surveyMeet 16 = .ok (.lstore_n 3, 1) := by decide +kernel
theorem dX0_surveyMeet_17 : decode cX0_surveyMeet 17 = .ok (.lload_n 3, 1) := by decide +kernel
theorem dX0_surveyMeet_18 : decode cX0_surveyMeet 18 = .ok (.lconst 0, 1) := by decide +kernel
theorem dX0_surveyMeet_19 : decode cX0_surveyMeet 19 = .ok (.lcmp, 1) := by decide +kernel
theorem dX0_surveyMeet_20 : decode cX0_surveyMeet 20 = .ok (.ifCond .ne 4, 3) := by decide +kernel
theorem dX0_surveyMeet_23 : decode cX0_surveyMeet 23 = .ok (.return_, 1) := by decide +kernel
theorem dX0_surveyMeet_24 : decode cX0_surveyMeet 24 = .ok (.aload_n 0, 1) := by decide +kernel
theorem dX0_surveyMeet_25 : decode cX0_surveyMeet 25 = .ok (.aload_n 0, 1) := by decide +kernel
theorem dX0_surveyMeet_26 : decode cX0_surveyMeet 26 = .ok (.getfield 21, 3) := by decide +kernel
theorem dX0_surveyMeet_29 : decode cX0_surveyMeet 29 = .ok (.iload_n 1, 1) := by decide +kernel
theorem dX0_surveyMeet_30 : decode cX0_surveyMeet 30 = .ok (.iaload, 1) := by decide +kernel
theorem dX0_surveyMeet_31 : decode cX0_surveyMeet 31 = .ok (.aload_n 0, 1) := by decide +kernel
theorem dX0_surveyMeet_32 : decode cX0_surveyMeet 32 = .ok (.getfield 21, 3) := by decide +kernel
theorem dX0_surveyMeet_35 : decode cX0_surveyMeet 35 = .ok (.iload_n 2, 1) := by decide +kernel
theorem dX0_surveyMeet_36 : decode cX0_surveyMeet 36 = .ok (.iaload, 1) := by decide +kernel
theorem dX0_surveyMeet_37 : decode cX0_surveyMeet 37 = .ok (.invokevirtual 61, 3) := by decide +kernel
theorem dX0_surveyMeet_40 : decode cX0_surveyMeet 40 = .ok (.lstore 5, 2) := by decide +kernel
theorem dX0_surveyMeet_42 : decode cX0_surveyMeet 42 = .ok (.aload_n 0, 1) := by decide +kernel
theorem dX0_surveyMeet_43 : decode cX0_surveyMeet 43 = .ok (.aload_n 0, 1) := by decide +kernel
theorem dX0_surveyMeet_44 : decode cX0_surveyMeet 44 = .ok (.getfield 21, 3) := by decide +kernel
theorem dX0_surveyMeet_47 : decode cX0_surveyMeet 47 = .ok (.iload_n 1, 1) := by decide +kernel
theorem dX0_surveyMeet_48 : decode cX0_surveyMeet 48 = .ok (.iaload, 1) := by decide +kernel
theorem dX0_surveyMeet_49 : decode cX0_surveyMeet 49 = .ok (.aload_n 0, 1) := by decide +kernel
theorem dX0_surveyMeet_50 : decode cX0_surveyMeet 50 = .ok (.getfield 21, 3) := by decide +kernel
theorem dX0_surveyMeet_53 : decode cX0_surveyMeet 53 = .ok (.iload_n 2, 1) := by decide +kernel
theorem dX0_surveyMeet_54 : decode cX0_surveyMeet 54 = .ok (.iaload, 1) := by decide +kernel
theorem dX0_surveyMeet_55 : decode cX0_surveyMeet 55 = .ok (.invokevirtual 64, 3) := by decide +kernel
theorem dX0_surveyMeet_58 : decode cX0_surveyMeet 58 = .ok (.lstore 7, 2) := by decide +kernel
theorem dX0_surveyMeet_60 : decode cX0_surveyMeet 60 = .ok (.iconst 0, 1) := by decide +kernel
theorem dX0_surveyMeet_61 : decode cX0_surveyMeet 61 = .ok (.istore 9, 2) := by decide +kernel
theorem dX0_surveyMeet_63 : decode cX0_surveyMeet 63 = .ok (.iconst 0, 1) := by decide +kernel
theorem dX0_surveyMeet_64 : decode cX0_surveyMeet 64 = .ok (.istore 10, 2) := by decide +kernel
theorem dX0_surveyMeet_66 : decode cX0_surveyMeet 66 = .ok (.iload 10, 2) := by decide +kernel
theorem dX0_surveyMeet_68 : decode cX0_surveyMeet 68 = .ok (.aload_n 0, 1) := by decide +kernel
theorem dX0_surveyMeet_69 : decode cX0_surveyMeet 69 = .ok (.getfield 42, 3) := by decide +kernel
theorem dX0_surveyMeet_72 : decode cX0_surveyMeet 72 = .ok (.if_icmp .ge 70, 3) := by decide +kernel
theorem dX0_surveyMeet_75 : decode cX0_surveyMeet 75 = .ok (.aload_n 0, 1) := by decide +kernel
theorem dX0_surveyMeet_76 : decode cX0_surveyMeet 76 = .ok (.getfield 21, 3) := by decide +kernel
theorem dX0_surveyMeet_79 : decode cX0_surveyMeet 79 = .ok (.iload 10, 2) := by decide +kernel
theorem dX0_surveyMeet_81 : decode cX0_surveyMeet 81 = .ok (.iaload, 1) := by decide +kernel
theorem dX0_surveyMeet_82 : decode cX0_surveyMeet 82 = .ok (.istore 11, 2) := by decide +kernel
theorem dX0_surveyMeet_84 : decode cX0_surveyMeet 84 = .ok (.aload_n 0, 1) := by decide +kernel
theorem dX0_surveyMeet_85 : decode cX0_surveyMeet 85 = .ok (.getfield 9, 3) := by decide +kernel
theorem dX0_surveyMeet_88 : decode cX0_surveyMeet 88 = .ok (.iload 11, 2) := by decide +kernel
theorem dX0_surveyMeet_90 : decode cX0_surveyMeet 90 = .ok (.laload, 1) := by decide +kernel
theorem dX0_surveyMeet_91 : decode cX0_surveyMeet 91 = .ok (.lload 5, 2) := by decide +kernel
theorem dX0_surveyMeet_93 : decode cX0_surveyMeet 93 = .ok (.lmul, 1) := by decide +kernel
theorem dX0_surveyMeet_94 : decode cX0_surveyMeet 94 = .ok (.aload_n 0, 1) := by decide +kernel
theorem dX0_surveyMeet_95 : decode cX0_surveyMeet 95 = .ok (.getfield 15, 3) := by decide +kernel
theorem dX0_surveyMeet_98 : decode cX0_surveyMeet 98 = .ok (.iload 11, 2) := by decide +kernel
theorem dX0_surveyMeet_100 : decode cX0_surveyMeet 100 = .ok (.laload, 1) := by decide +kernel
theorem dX0_surveyMeet_101 : decode cX0_surveyMeet 101 = .ok (.lload 7, 2) := by decide +kernel
theorem dX0_surveyMeet_103 : decode cX0_surveyMeet 103 = .ok (.lmul, 1) := by decide +kernel
theorem dX0_surveyMeet_104 : decode cX0_surveyMeet 104 = .ok (.ladd, 1) := by decide +kernel
theorem dX0_surveyMeet_105 : decode cX0_surveyMeet 105 = .ok (.aload_n 0, 1) := by decide +kernel
theorem dX0_surveyMeet_106 : decode cX0_surveyMeet 106 = .ok (.getfield 18, 3) := by decide +kernel
theorem dX0_surveyMeet_109 : decode cX0_surveyMeet 109 = .ok (.iload 11, 2) := by decide +kernel
theorem dX0_surveyMeet_111 : decode cX0_surveyMeet 111 = .ok (.laload, 1) := by decide +kernel
theorem dX0_surveyMeet_112 : decode cX0_surveyMeet 112 = .ok (.lload_n 3, 1) := by decide +kernel
theorem dX0_surveyMeet_113 : decode cX0_surveyMeet 113 = .ok (.lmul, 1) := by decide +kernel
theorem dX0_surveyMeet_114 : decode cX0_surveyMeet 114 = .ok (.ladd, 1) := by decide +kernel
theorem dX0_surveyMeet_115 : decode cX0_surveyMeet 115 = .ok (.lconst 0, 1) := by decide +kernel
theorem dX0_surveyMeet_116 : decode cX0_surveyMeet 116 = .ok (.lcmp, 1) := by decide +kernel
theorem dX0_surveyMeet_117 : decode cX0_surveyMeet 117 = .ok (.ifCond .ne 19, 3) := by decide +kernel
theorem dX0_surveyMeet_120 : decode cX0_surveyMeet 120 = .ok (.iload 10, 2) := by decide +kernel
theorem dX0_surveyMeet_122 : decode cX0_surveyMeet 122 = .ok (.iload_n 2, 1) := by decide +kernel
theorem dX0_surveyMeet_123 : decode cX0_surveyMeet 123 = .ok (.if_icmp .ge 10, 3) := by decide +kernel
theorem dX0_surveyMeet_126 : decode cX0_surveyMeet 126 = .ok (.iload 10, 2) := by decide +kernel
theorem dX0_surveyMeet_128 : decode cX0_surveyMeet 128 = .ok (.iload_n 1, 1) := by decide +kernel
theorem dX0_surveyMeet_129 : decode cX0_surveyMeet 129 = .ok (.if_icmp .eq 4, 3) := by decide +kernel
theorem dX0_surveyMeet_132 : decode cX0_surveyMeet 132 = .ok (.return_, 1) := by decide +kernel
theorem dX0_surveyMeet_133 : decode cX0_surveyMeet 133 = .ok (.iinc 9 1, 3) := by decide +kernel
theorem dX0_surveyMeet_136 : decode cX0_surveyMeet 136 = .ok (.iinc 10 1, 3) := by decide +kernel
theorem dX0_surveyMeet_139 : decode cX0_surveyMeet 139 = .ok (.goto (-73), 3) := by decide +kernel
theorem dX0_surveyMeet_142 : decode cX0_surveyMeet 142 = .ok (.aload_n 0, 1) := by decide +kernel
theorem dX0_surveyMeet_143 : decode cX0_surveyMeet 143 = .ok (.dup, 1) := by decide +kernel
theorem dX0_surveyMeet_144 : decode cX0_surveyMeet 144 = .ok (.getfield 33, 3) := by decide +kernel
theorem dX0_surveyMeet_147 : decode cX0_surveyMeet 147 = .ok (.iconst 1, 1) := by decide +kernel
theorem dX0_surveyMeet_148 : decode cX0_surveyMeet 148 = .ok (.iadd, 1) := by decide +kernel
theorem dX0_surveyMeet_149 : decode cX0_surveyMeet 149 = .ok (.putfield 33, 3) := by decide +kernel
theorem dX0_surveyMeet_152 : decode cX0_surveyMeet 152 = .ok (.aload_n 0, 1) := by decide +kernel
theorem dX0_surveyMeet_153 : decode cX0_surveyMeet 153 = .ok (.dup, 1) := by decide +kernel
theorem dX0_surveyMeet_154 : decode cX0_surveyMeet 154 = .ok (.getfield 36, 3) := by decide +kernel
theorem dX0_surveyMeet_157 : decode cX0_surveyMeet 157 = .ok (.iload 9, 2) := by decide +kernel
theorem dX0_surveyMeet_159 : decode cX0_surveyMeet 159 = .ok (.iadd, 1) := by decide +kernel
theorem dX0_surveyMeet_160 : decode cX0_surveyMeet 160 = .ok (.putfield 36, 3) := by decide +kernel
theorem dX0_surveyMeet_163 : decode cX0_surveyMeet 163 = .ok (.aload_n 0, 1) := by decide +kernel
theorem dX0_surveyMeet_164 : decode cX0_surveyMeet 164 = .ok (.aload_n 0, 1) := by decide +kernel
theorem dX0_surveyMeet_165 : decode cX0_surveyMeet 165 = .ok (.getfield 39, 3) := by decide +kernel
theorem dX0_surveyMeet_168 : decode cX0_surveyMeet 168 = .ok (.iload 9, 2) := by decide +kernel
theorem dX0_surveyMeet_170 : decode cX0_surveyMeet 170 = .ok (.invokestatic 67, 3) := by decide +kernel
theorem dX0_surveyMeet_173 : decode cX0_surveyMeet 173 = .ok (.putfield 39, 3) := by decide +kernel
theorem dX0_surveyMeet_176 : decode cX0_surveyMeet 176 = .ok (.return_, 1) := by decide +kernel
theorem dX0_weight_0 : decode cX0_weight 0 = .ok (.aload_n 0, 1) := by decide +kernel
theorem dX0_weight_1 : decode cX0_weight 1 = .ok (.getfield 9, 3) := by decide +kernel
theorem dX0_weight_4 : decode cX0_weight 4 = .ok (.iload_n 1, 1) := by decide +kernel
theorem dX0_weight_5 : decode cX0_weight 5 = .ok (.laload, 1) := by decide +kernel
theorem dX0_weight_6 : decode cX0_weight 6 = .ok (.aload_n 0, 1) := by decide +kernel
theorem dX0_weight_7 : decode cX0_weight 7 = .ok (.getfield 15, 3) := by decide +kernel
theorem dX0_weight_10 : decode cX0_weight 10 = .ok (.iload_n 2, 1) := by decide +kernel
theorem dX0_weight_11 : decode cX0_weight 11 = .ok (.laload, 1) := by decide +kernel
theorem dX0_weight_12 : decode cX0_weight 12 = .ok (.lmul, 1) := by decide +kernel
theorem dX0_weight_13 : decode cX0_weight 13 = .ok (.aload_n 0, 1) := by decide +kernel
theorem dX0_weight_14 : decode cX0_weight 14 = .ok (.getfield 9, 3) := by decide +kernel
theorem dX0_weight_17 : decode cX0_weight 17 = .ok (.iload_n 2, 1) := by decide +kernel
theorem dX0_weight_18 : decode cX0_weight 18 = .ok (.laload, 1) := by decide +kernel
theorem dX0_weight_19 : decode cX0_weight 19 = .ok (.aload_n 0, 1) := by decide +kernel
theorem dX0_weight_20 : decode cX0_weight 20 = .ok (.getfield 15, 3) := by decide +kernel
theorem dX0_weight_23 : decode cX0_weight 23 = .ok (.iload_n 1, 1) := by decide +kernel
theorem dX0_weight_24 : decode cX0_weight 24 = .ok (.laload, 1) := by decide +kernel
theorem dX0_weight_25 : decode cX0_weight 25 = .ok (.lmul, 1) := by decide +kernel
theorem dX0_weight_26 : decode cX0_weight 26 = .ok (.lsub, 1) := by decide +kernel
theorem dX0_weight_27 : decode cX0_weight 27 = .ok (.lreturn, 1) := by decide +kernel
theorem dX0_momentX_0 : decode cX0_momentX 0 = .ok (.aload_n 0, 1) := by decide +kernel
theorem dX0_momentX_1 : decode cX0_momentX 1 = .ok (.getfield 15, 3) := by decide +kernel
theorem dX0_momentX_4 : decode cX0_momentX 4 = .ok (.iload_n 1, 1) := by decide +kernel
theorem dX0_momentX_5 : decode cX0_momentX 5 = .ok (.laload, 1) := by decide +kernel
theorem dX0_momentX_6 : decode cX0_momentX 6 = .ok (.aload_n 0, 1) := by decide +kernel
theorem dX0_momentX_7 : decode cX0_momentX 7 = .ok (.getfield 18, 3) := by decide +kernel
theorem dX0_momentX_10 : decode cX0_momentX 10 = .ok (.iload_n 2, 1) := by decide +kernel
theorem dX0_momentX_11 : decode cX0_momentX 11 = .ok (.laload, 1) := by decide +kernel
theorem dX0_momentX_12 : decode cX0_momentX 12 = .ok (.lmul, 1) := by decide +kernel
theorem dX0_momentX_13 : decode cX0_momentX 13 = .ok (.aload_n 0, 1) := by decide +kernel
theorem dX0_momentX_14 : decode cX0_momentX 14 = .ok (.getfield 15, 3) := by decide +kernel
theorem dX0_momentX_17 : decode cX0_momentX 17 = .ok (.iload_n 2, 1) := by decide +kernel
theorem dX0_momentX_18 : decode cX0_momentX 18 = .ok (.laload, 1) := by decide +kernel
theorem dX0_momentX_19 : decode cX0_momentX 19 = .ok (.aload_n 0, 1) := by decide +kernel
theorem dX0_momentX_20 : decode cX0_momentX 20 = .ok (.getfield 18, 3) := by decide +kernel
theorem dX0_momentX_23 : decode cX0_momentX 23 = .ok (.iload_n 1, 1) := by decide +kernel
theorem dX0_momentX_24 : decode cX0_momentX 24 = .ok (.laload, 1) := by decide +kernel
theorem dX0_momentX_25 : decode cX0_momentX 25 = .ok (.lmul, 1) := by decide +kernel
theorem dX0_momentX_26 : decode cX0_momentX 26 = .ok (.lsub, 1) := by decide +kernel
theorem dX0_momentX_27 : decode cX0_momentX 27 = .ok (.lreturn, 1) := by decide +kernel
theorem dX0_momentY_0 : decode cX0_momentY 0 = .ok (.aload_n 0, 1) := by decide +kernel
theorem dX0_momentY_1 : decode cX0_momentY 1 = .ok (.getfield 18, 3) := by decide +kernel
theorem dX0_momentY_4 : decode cX0_momentY 4 = .ok (.iload_n 1, 1) := by decide +kernel
theorem dX0_momentY_5 : decode cX0_momentY 5 = .ok (.laload, 1) := by decide +kernel
theorem dX0_momentY_6 : decode cX0_momentY 6 = .ok (.aload_n 0, 1) := by decide +kernel
theorem dX0_momentY_7 : decode cX0_momentY 7 = .ok (.getfield 9, 3) := by decide +kernel
theorem dX0_momentY_10 : decode cX0_momentY 10 = .ok (.iload_n 2, 1) := by decide +kernel
theorem dX0_momentY_11 : decode cX0_momentY 11 = .ok (.laload, 1) := by decide +kernel
theorem dX0_momentY_12 : decode cX0_momentY 12 = .ok (.lmul, 1) := by decide +kernel
theorem dX0_momentY_13 : decode cX0_momentY 13 = .ok (.aload_n 0, 1) := by decide +kernel
theorem dX0_momentY_14 : decode cX0_momentY 14 = .ok (.getfield 18, 3) := by decide +kernel
theorem dX0_momentY_17 : decode cX0_momentY 17 = .ok (.iload_n 2, 1) := by decide +kernel
theorem dX0_momentY_18 : decode cX0_momentY 18 = .ok (.laload, 1) := by decide +kernel
theorem dX0_momentY_19 : decode cX0_momentY 19 = .ok (.aload_n 0, 1) := by decide +kernel
theorem dX0_momentY_20 : decode cX0_momentY 20 = .ok (.getfield 9, 3) := by decide +kernel
theorem dX0_momentY_23 : decode cX0_momentY 23 = .ok (.iload_n 1, 1) := by decide +kernel
theorem dX0_momentY_24 : decode cX0_momentY 24 = .ok (.laload, 1) := by decide +kernel
theorem dX0_momentY_25 : decode cX0_momentY 25 = .ok (.lmul, 1) := by decide +kernel
theorem dX0_momentY_26 : decode cX0_momentY 26 = .ok (.lsub, 1) := by decide +kernel
theorem dX0_momentY_27 : decode cX0_momentY 27 = .ok (.lreturn, 1) := by decide +kernel
