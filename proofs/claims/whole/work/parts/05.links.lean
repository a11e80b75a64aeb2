theorem gl_X0_29 : GoodIn BX (wsV RX0 29 RX0 yX0_gatherDifferent (Cond.code yX0_gatherDifferent cX0_gatherDifferent 3 none :: BX)) := gdV (by decide +kernel) (by decide +kernel) (by decide +kernel) (by decide +kernel) (List.mem_of_getElem? (i := 7) rfl)
theorem gl_X0_45 : GoodIn BX (wsV RX0 45 RX0 yX0_surveyMeet (Cond.code yX0_surveyMeet cX0_surveyMeet 12 none :: BX)) := gdV (by decide +kernel) (by decide +kernel) (by decide +kernel) (by decide +kernel) (List.mem_of_getElem? (i := 9) rfl)
theorem gl_X0_49 : GoodIn BX (wsV RX0 49 RX0 yX0_cells (Cond.code yX0_cells cX0_cells 1 (some .int) :: BX)) := gdV (by decide +kernel) (by decide +kernel) (by decide +kernel) (by decide +kernel) (List.mem_of_getElem? (i := 11) rfl)
theorem gl_X0_53 : GoodIn BX (wsV RX0 53 RX0 yX0_isNew (Cond.code yX0_isNew cX0_isNew 4 (some .boolean) :: BX)) := gdV (by decide +kernel) (by decide +kernel) (by decide +kernel) (by decide +kernel) (List.mem_of_getElem? (i := 6) rfl)
theorem gl_X0_57 : GoodIn BX (wsV RX0 57 RX0 yX0_weight (Cond.code yX0_weight cX0_weight 3 (some .long) :: BX)) := gdV (by decide +kernel) (by decide +kernel) (by decide +kernel) (by decide +kernel) (List.mem_of_getElem? (i := 3) rfl)
theorem gl_X0_61 : GoodIn BX (wsV RX0 61 RX0 yX0_momentX (Cond.code yX0_momentX cX0_momentX 3 (some .long) :: BX)) := gdV (by decide +kernel) (by decide +kernel) (by decide +kernel) (by decide +kernel) (List.mem_of_getElem? (i := 4) rfl)
theorem gl_X0_64 : GoodIn BX (wsV RX0 64 RX0 yX0_momentY (Cond.code yX0_momentY cX0_momentY 3 (some .long) :: BX)) := gdV (by decide +kernel) (by decide +kernel) (by decide +kernel) (by decide +kernel) (List.mem_of_getElem? (i := 5) rfl)
theorem gl_X1_27 : GoodIn BX (wsV RX1 27 RX1 yX1_x (Cond.code yX1_x cX1_x 2 (some .float) :: BX)) := gdV (by decide +kernel) (by decide +kernel) (by decide +kernel) (by decide +kernel) (List.mem_of_getElem? (i := 15) rfl)
theorem gl_X1_31 : GoodIn BX (wsV RX1 31 RX1 yX1_y (Cond.code yX1_y cX1_y 2 (some .float) :: BX)) := gdV (by decide +kernel) (by decide +kernel) (by decide +kernel) (by decide +kernel) (List.mem_of_getElem? (i := 16) rfl)
theorem gl_X1_34 : GoodIn BX (wsV RX1 34 RX1 yX1_reachOfThree (Cond.code yX1_reachOfThree cX1_reachOfThree 4 (some .float) :: BX)) := gdV (by decide +kernel) (by decide +kernel) (by decide +kernel) (by decide +kernel) (List.mem_of_getElem? (i := 20) rfl)
theorem gl_X1_39 : GoodIn BX (va_wsS RX1 39 yX1_clearSign (Cond.code yX1_clearSign cX1_clearSign 2 (some .int) :: BX)) := gdS (by decide +kernel) (by decide +kernel) (by decide +kernel) (List.mem_of_getElem? (i := 21) rfl)
theorem gl_X1_43 : GoodIn BX (wsV RX1 43 RX1 yX1_reach (Cond.code yX1_reach cX1_reach 2 (some .float) :: BX)) := gdV (by decide +kernel) (by decide +kernel) (by decide +kernel) (by decide +kernel) (List.mem_of_getElem? (i := 19) rfl)
theorem gl_X1_46 : GoodIn BX (va_wsS RX1 46 yX1_larger (Cond.code yX1_larger cX1_larger 2 (some .float) :: BX)) := gdS (by decide +kernel) (by decide +kernel) (by decide +kernel) (List.mem_of_getElem? (i := 18) rfl)
theorem gl_X1_51 : GoodIn BX (va_wsS RX1 51 yX1_unsigned (Cond.code yX1_unsigned cX1_unsigned 1 (some .float) :: BX)) := gdS (by decide +kernel) (by decide +kernel) (by decide +kernel) (List.mem_of_getElem? (i := 17) rfl)
theorem gl_X2_22 : GoodIn BX (wsV RX2 22 RX2 yX2_has (Cond.code yX2_has cX2_has 2 (some .boolean) :: BX)) := gdV (by decide +kernel) (by decide +kernel) (by decide +kernel) (by decide +kernel) (List.mem_of_getElem? (i := 26) rfl)
theorem gl_X2_26 : GoodIn BX (wsV RX2 26 RX2 yX2_same (Cond.code yX2_same cX2_same 3 (some .boolean) :: BX)) := gdV (by decide +kernel) (by decide +kernel) (by decide +kernel) (by decide +kernel) (List.mem_of_getElem? (i := 28) rfl)
theorem gl_X2_34 : GoodIn BX (wsV RX2 34 RX2 yX2_dot (Cond.code yX2_dot cX2_dot 4 (some .long) :: BX)) := gdV (by decide +kernel) (by decide +kernel) (by decide +kernel) (by decide +kernel) (List.mem_of_getElem? (i := 33) rfl)
theorem gl_X2_38 : GoodIn BX (wsV RX2 38 RX2 yX2_turn (Cond.code yX2_turn cX2_turn 8 (some .int) :: BX)) := gdV (by decide +kernel) (by decide +kernel) (by decide +kernel) (by decide +kernel) (List.mem_of_getElem? (i := 31) rfl)
theorem gl_X2_42 : GoodIn BX (wsV RX2 42 RX2 yX2_earlier (Cond.code yX2_earlier cX2_earlier 3 (some .int) :: BX)) := gdV (by decide +kernel) (by decide +kernel) (by decide +kernel) (by decide +kernel) (List.mem_of_getElem? (i := 40) rfl)
theorem gl_X2_46 : GoodIn BX (wsV RX2 46 RX2 yX2_later (Cond.code yX2_later cX2_later 3 (some .int) :: BX)) := gdV (by decide +kernel) (by decide +kernel) (by decide +kernel) (by decide +kernel) (List.mem_of_getElem? (i := 41) rfl)
theorem gl_X2_49 : GoodIn BX (wsV RX2 49 RX2 yX2_compareAcross (Cond.code yX2_compareAcross cX2_compareAcross 4 (some .int) :: BX)) := gdV (by decide +kernel) (by decide +kernel) (by decide +kernel) (by decide +kernel) (List.mem_of_getElem? (i := 39) rfl)
theorem gl_X2_52 : GoodIn BX (wsV RX2 52 RX2 yX2_onWay (Cond.code yX2_onWay cX2_onWay 4 (some .boolean) :: BX)) := gdV (by decide +kernel) (by decide +kernel) (by decide +kernel) (by decide +kernel) (List.mem_of_getElem? (i := 36) rfl)
theorem gl_X2_56 : GoodIn BX (wsV RX2 56 RX2 yX2_partRound (Cond.code yX2_partRound cX2_partRound 3 (some .int) :: BX)) := gdV (by decide +kernel) (by decide +kernel) (by decide +kernel) (by decide +kernel) (List.mem_of_getElem? (i := 44) rfl)
theorem gl_X2_59 : GoodIn BX (wsV RX2 59 RX2 yX2_distance (Cond.code yX2_distance cX2_distance 3 (some .long) :: BX)) := gdV (by decide +kernel) (by decide +kernel) (by decide +kernel) (by decide +kernel) (List.mem_of_getElem? (i := 34) rfl)
theorem gl_X3_23 : GoodIn BX (wsV RX3 23 RX2 yX2_turn (Cond.code yX2_turn cX2_turn 8 (some .int) :: BX)) := gdV (by decide +kernel) (by decide +kernel) (by decide +kernel) (by decide +kernel) (List.mem_of_getElem? (i := 31) rfl)
theorem gl_X3_29 : GoodIn BX (va_wsS RX3 29 yX3_following (Cond.code yX3_following cX3_following 2 (some .int) :: BX)) := gdS (by decide +kernel) (by decide +kernel) (by decide +kernel) (List.mem_of_getElem? (i := 51) rfl)
theorem gl_X3_33 : GoodIn BX (wsV RX3 33 RX2 yX2_onWay (Cond.code yX2_onWay cX2_onWay 4 (some .boolean) :: BX)) := gdV (by decide +kernel) (by decide +kernel) (by decide +kernel) (by decide +kernel) (List.mem_of_getElem? (i := 36) rfl)
theorem gl_X3_37 : GoodIn BX (wsV RX3 37 RX3 yX3_climbsPast (Cond.code yX3_climbsPast cX3_climbsPast 5 (some .boolean) :: BX)) := gdV (by decide +kernel) (by decide +kernel) (by decide +kernel) (by decide +kernel) (List.mem_of_getElem? (i := 54) rfl)
theorem gl_X3_43 : GoodIn BX (wsV RX3 43 RX2 yX2_distance (Cond.code yX2_distance cX2_distance 3 (some .long) :: BX)) := gdV (by decide +kernel) (by decide +kernel) (by decide +kernel) (by decide +kernel) (List.mem_of_getElem? (i := 34) rfl)
theorem gl_X3_47 : GoodIn BX (wsV RX3 47 RX3 yX3_howManyBefore (Cond.code yX3_howManyBefore cX3_howManyBefore 7 (some .int) :: BX)) := gdV (by decide +kernel) (by decide +kernel) (by decide +kernel) (by decide +kernel) (List.mem_of_getElem? (i := 59) rfl)
theorem gl_X3_50 : GoodIn BX (wsV RX3 50 RX3 yX3_compare (Cond.code yX3_compare cX3_compare 4 (some .int) :: BX)) := gdV (by decide +kernel) (by decide +kernel) (by decide +kernel) (by decide +kernel) (List.mem_of_getElem? (i := 58) rfl)
theorem gl_X3_53 : GoodIn BX (wsV RX3 53 RX2 yX2_compareAcross (Cond.code yX2_compareAcross cX2_compareAcross 4 (some .int) :: BX)) := gdV (by decide +kernel) (by decide +kernel) (by decide +kernel) (by decide +kernel) (List.mem_of_getElem? (i := 39) rfl)
theorem gl_X3_56 : GoodIn BX (wsV RX3 56 RX2 yX2_compareRound (Cond.code yX2_compareRound cX2_compareRound 7 (some .int) :: BX)) := gdV (by decide +kernel) (by decide +kernel) (by decide +kernel) (by decide +kernel) (List.mem_of_getElem? (i := 45) rfl)
theorem gl_X4_103 : GoodIn BX (wsV RX4 103 RX1 yX1_clearTurn (Cond.code yX1_clearTurn cX1_clearTurn 6 (some .int) :: BX)) := gdV (by decide +kernel) (by decide +kernel) (by decide +kernel) (by decide +kernel) (List.mem_of_getElem? (i := 22) rfl)
theorem gl_X4_107 : GoodIn BX (wsV RX4 107 RX2 yX2_turn (Cond.code yX2_turn cX2_turn 8 (some .int) :: BX)) := gdV (by decide +kernel) (by decide +kernel) (by decide +kernel) (by decide +kernel) (List.mem_of_getElem? (i := 31) rfl)
theorem gl_X4_110 : GoodIn BX (wsV RX4 110 RX1 yX1_tally (Cond.code yX1_tally cX1_tally 3 none :: BX)) := gdV (by decide +kernel) (by decide +kernel) (by decide +kernel) (by decide +kernel) (List.mem_of_getElem? (i := 14) rfl)
theorem gl_X4_114 : GoodIn BX (wsV RX4 114 RX2 yX2_hasAll (Cond.code yX2_hasAll cX2_hasAll 5 (some .boolean) :: BX)) := gdV (by decide +kernel) (by decide +kernel) (by decide +kernel) (by decide +kernel) (List.mem_of_getElem? (i := 27) rfl)
theorem gl_X4_118 : GoodIn BX (wsV RX4 118 RX1 yX1_clearLift (Cond.code yX1_clearLift cX1_clearLift 16 (some .int) :: BX)) := gdV (by decide +kernel) (by decide +kernel) (by decide +kernel) (by decide +kernel) (List.mem_of_getElem? (i := 23) rfl)
theorem gl_X4_122 : GoodIn BX (wsV RX4 122 RX2 yX2_lift (Cond.code yX2_lift cX2_lift 23 (some .int) :: BX)) := gdV (by decide +kernel) (by decide +kernel) (by decide +kernel) (by decide +kernel) (List.mem_of_getElem? (i := 32) rfl)
theorem gl_X4_134 : GoodIn BX (wsV RX4 134 RX2 yX2_onWay (Cond.code yX2_onWay cX2_onWay 4 (some .boolean) :: BX)) := gdV (by decide +kernel) (by decide +kernel) (by decide +kernel) (by decide +kernel) (List.mem_of_getElem? (i := 36) rfl)
theorem gl_X4_138 : GoodIn BX (wsV RX4 138 RX2 yX2_oneDirection (Cond.code yX2_oneDirection cX2_oneDirection 4 (some .boolean) :: BX)) := gdV (by decide +kernel) (by decide +kernel) (by decide +kernel) (by decide +kernel) (List.mem_of_getElem? (i := 35) rfl)
theorem gl_X4_141 : GoodIn BX (wsV RX4 141 RX2 yX2_strictlyInAngle (Cond.code yX2_strictlyInAngle cX2_strictlyInAngle 5 (some .boolean) :: BX)) := gdV (by decide +kernel) (by decide +kernel) (by decide +kernel) (by decide +kernel) (List.mem_of_getElem? (i := 37) rfl)
theorem gl_X4_144 : GoodIn BX (wsV RX4 144 RX2 yX2_allInLine (Cond.code yX2_allInLine cX2_allInLine 5 (some .boolean) :: BX)) := gdV (by decide +kernel) (by decide +kernel) (by decide +kernel) (by decide +kernel) (List.mem_of_getElem? (i := 38) rfl)
theorem gl_X4_147 : GoodIn BX (wsV RX4 147 RX2 yX2_overlap (Cond.code yX2_overlap cX2_overlap 8 (some .int) :: BX)) := gdV (by decide +kernel) (by decide +kernel) (by decide +kernel) (by decide +kernel) (List.mem_of_getElem? (i := 42) rfl)
theorem gl_X4_150 : GoodIn BX (wsV RX4 150 RX2 yX2_meeting (Cond.code yX2_meeting cX2_meeting 6 (some .int) :: BX)) := gdV (by decide +kernel) (by decide +kernel) (by decide +kernel) (by decide +kernel) (List.mem_of_getElem? (i := 43) rfl)
theorem gl_X4_153 : GoodIn BX (wsV RX4 153 RX2 yX2_anySame (Cond.code yX2_anySame cX2_anySame 5 (some .boolean) :: BX)) := gdV (by decide +kernel) (by decide +kernel) (by decide +kernel) (by decide +kernel) (List.mem_of_getElem? (i := 29) rfl)
theorem gl_X4_156 : GoodIn BX (wsV RX4 156 RX3 yX3_refusal (Cond.code yX3_refusal cX3_refusal 3 (some .int) :: BX)) := gdV (by decide +kernel) (by decide +kernel) (by decide +kernel) (by decide +kernel) (List.mem_of_getElem? (i := 50) rfl)
theorem gl_X4_159 : GoodIn BX (wsV RX4 159 RX3 yX3_commonSide (Cond.code yX3_commonSide cX3_commonSide 7 (some .int) :: BX)) := gdV (by decide +kernel) (by decide +kernel) (by decide +kernel) (by decide +kernel) (List.mem_of_getElem? (i := 52) rfl)
theorem gl_X4_162 : GoodIn BX (wsV RX4 162 RX4 yX4_refusalWithPoint (Cond.code yX4_refusalWithPoint cX4_refusalWithPoint 3 (some .int) :: BX)) := gdV (by decide +kernel) (by decide +kernel) (by decide +kernel) (by decide +kernel) (List.mem_of_getElem? (i := 78) rfl)
theorem gl_X4_165 : GoodIn BX (wsV RX4 165 RX3 yX3_onAnyEdge (Cond.code yX3_onAnyEdge cX3_onAnyEdge 4 (some .boolean) :: BX)) := gdV (by decide +kernel) (by decide +kernel) (by decide +kernel) (by decide +kernel) (List.mem_of_getElem? (i := 53) rfl)
theorem gl_X4_168 : GoodIn BX (wsV RX4 168 RX3 yX3_rises (Cond.code yX3_rises cX3_rises 5 (some .int) :: BX)) := gdV (by decide +kernel) (by decide +kernel) (by decide +kernel) (by decide +kernel) (List.mem_of_getElem? (i := 55) rfl)
theorem gl_X4_171 : GoodIn BX (wsV RX4 171 RX3 yX3_falls (Cond.code yX3_falls cX3_falls 5 (some .int) :: BX)) := gdV (by decide +kernel) (by decide +kernel) (by decide +kernel) (by decide +kernel) (List.mem_of_getElem? (i := 56) rfl)
theorem gl_X4_174 : GoodIn BX (wsV RX4 174 RX3 yX3_nearestBits (Cond.code yX3_nearestBits cX3_nearestBits 9 (some .int) :: BX)) := gdV (by decide +kernel) (by decide +kernel) (by decide +kernel) (by decide +kernel) (List.mem_of_getElem? (i := 57) rfl)
theorem gl_X4_177 : GoodIn BX (va_wsS RX4 177 yX4_isRank (Cond.code yX4_isRank cX4_isRank 2 (some .boolean) :: BX)) := gdS (by decide +kernel) (by decide +kernel) (by decide +kernel) (List.mem_of_getElem? (i := 82) rfl)
theorem gl_X4_180 : GoodIn BX (wsV RX4 180 RX3 yX3_placeOfRank (Cond.code yX3_placeOfRank cX3_placeOfRank 5 (some .int) :: BX)) := gdV (by decide +kernel) (by decide +kernel) (by decide +kernel) (by decide +kernel) (List.mem_of_getElem? (i := 60) rfl)
theorem gl_X4_188 : GoodIn BX (wsV RX4 188 RX3 yX3_doubleArea (Cond.code yX3_doubleArea cX3_doubleArea 7 (some .long) :: BX)) := gdV (by decide +kernel) (by decide +kernel) (by decide +kernel) (by decide +kernel) (List.mem_of_getElem? (i := 61) rfl)
theorem gl_X4_193 : GoodIn BX (wsV RX4 193 RX0 yX0_add (Cond.code yX0_add cX0_add 5 (some .int) :: BX)) := gdV (by decide +kernel) (by decide +kernel) (by decide +kernel) (by decide +kernel) (List.mem_of_getElem? (i := 2) rfl)
theorem gl_X4_195 : GoodIn BX (wsV RX4 195 RX0 yX0_survey (Cond.code yX0_survey cX0_survey 4 none :: BX)) := gdV (by decide +kernel) (by decide +kernel) (by decide +kernel) (by decide +kernel) (List.mem_of_getElem? (i := 10) rfl)
theorem gl_X4_205 : GoodIn BX (wsV RX4 205 RX0 yX0_cells (Cond.code yX0_cells cX0_cells 1 (some .int) :: BX)) := gdV (by decide +kernel) (by decide +kernel) (by decide +kernel) (by decide +kernel) (List.mem_of_getElem? (i := 11) rfl)
theorem gl_X4_212 : GoodIn BX (wsV RX4 212 RX0 yX0_closedCells (Cond.code yX0_closedCells cX0_closedCells 1 (some .int) :: BX)) := gdV (by decide +kernel) (by decide +kernel) (by decide +kernel) (by decide +kernel) (List.mem_of_getElem? (i := 12) rfl)
theorem gl_X4_39 : GoodIn BX (va_wsS RX4 39 yX4_isCoordinate (Cond.code yX4_isCoordinate cX4_isCoordinate 2 (some .boolean) :: BX)) := gdS (by decide +kernel) (by decide +kernel) (by decide +kernel) (List.mem_of_getElem? (i := 63) rfl)
theorem gl_X4_43 : GoodIn BX (va_wsS RX4 43 yX4_isDown (Cond.code yX4_isDown cX4_isDown 2 (some .boolean) :: BX)) := gdS (by decide +kernel) (by decide +kernel) (by decide +kernel) (List.mem_of_getElem? (i := 64) rfl)
theorem gl_X4_50 : GoodIn BX (wsV RX4 50 RX2 yX2_add (Cond.code yX2_add cX2_add 3 (some .int) :: BX)) := gdV (by decide +kernel) (by decide +kernel) (by decide +kernel) (by decide +kernel) (List.mem_of_getElem? (i := 25) rfl)
theorem gl_X4_61 : GoodIn BX (wsV RX4 61 RX3 yX3_resize (Cond.code yX3_resize cX3_resize 4 (some .int) :: BX)) := gdV (by decide +kernel) (by decide +kernel) (by decide +kernel) (by decide +kernel) (List.mem_of_getElem? (i := 47) rfl)
theorem gl_X4_65 : GoodIn BX (wsV RX4 65 RX2 yX2_has (Cond.code yX2_has cX2_has 2 (some .boolean) :: BX)) := gdV (by decide +kernel) (by decide +kernel) (by decide +kernel) (by decide +kernel) (List.mem_of_getElem? (i := 26) rfl)
theorem gl_X4_69 : GoodIn BX (wsV RX4 69 RX3 yX3_hasPlace (Cond.code yX3_hasPlace cX3_hasPlace 2 (some .boolean) :: BX)) := gdV (by decide +kernel) (by decide +kernel) (by decide +kernel) (by decide +kernel) (List.mem_of_getElem? (i := 48) rfl)
theorem gl_X4_77 : GoodIn BX (wsV RX4 77 RX3 yX3_put (Cond.code yX3_put cX3_put 4 (some .int) :: BX)) := gdV (by decide +kernel) (by decide +kernel) (by decide +kernel) (by decide +kernel) (List.mem_of_getElem? (i := 49) rfl)
theorem gl_X4_95 : GoodIn BX (wsV RX4 95 RX2 yX2_same (Cond.code yX2_same cX2_same 3 (some .boolean) :: BX)) := gdV (by decide +kernel) (by decide +kernel) (by decide +kernel) (by decide +kernel) (List.mem_of_getElem? (i := 28) rfl)
theorem gc_X0_init : Cond.code yX0_init cX0_init 1 none ∈ BX1 := List.mem_of_getElem? (i := 0) rfl
theorem gc_X0_add : Cond.code yX0_add cX0_add 5 (some .int) ∈ BX1 := List.mem_of_getElem? (i := 2) rfl
theorem gc_X0_weight : Cond.code yX0_weight cX0_weight 3 (some .long) ∈ BX1 := List.mem_of_getElem? (i := 3) rfl
theorem gc_X0_momentX : Cond.code yX0_momentX cX0_momentX 3 (some .long) ∈ BX1 := List.mem_of_getElem? (i := 4) rfl
theorem gc_X0_momentY : Cond.code yX0_momentY cX0_momentY 3 (some .long) ∈ BX1 := List.mem_of_getElem? (i := 5) rfl
theorem gc_X0_isNew : Cond.code yX0_isNew cX0_isNew 4 (some .boolean) ∈ BX1 := List.mem_of_getElem? (i := 6) rfl
theorem gc_X0_gatherDifferent : Cond.code yX0_gatherDifferent cX0_gatherDifferent 3 none ∈ BX1 := List.mem_of_getElem? (i := 7) rfl
theorem gc_X0_surveyMeet : Cond.code yX0_surveyMeet cX0_surveyMeet 12 none ∈ BX1 := List.mem_of_getElem? (i := 9) rfl
theorem gc_X0_survey : Cond.code yX0_survey cX0_survey 4 none ∈ BX1 := List.mem_of_getElem? (i := 10) rfl
theorem gc_X0_cells : Cond.code yX0_cells cX0_cells 1 (some .int) ∈ BX1 := List.mem_of_getElem? (i := 11) rfl
theorem gc_X0_closedCells : Cond.code yX0_closedCells cX0_closedCells 1 (some .int) ∈ BX1 := List.mem_of_getElem? (i := 12) rfl
theorem gc_X1_init : Cond.code yX1_init cX1_init 2 none ∈ BX1 := List.mem_of_getElem? (i := 13) rfl
theorem gc_X1_tally : Cond.code yX1_tally cX1_tally 3 none ∈ BX1 := List.mem_of_getElem? (i := 14) rfl
theorem gc_X1_x : Cond.code yX1_x cX1_x 2 (some .float) ∈ BX1 := List.mem_of_getElem? (i := 15) rfl
theorem gc_X1_y : Cond.code yX1_y cX1_y 2 (some .float) ∈ BX1 := List.mem_of_getElem? (i := 16) rfl
theorem gc_X1_unsigned : Cond.code yX1_unsigned cX1_unsigned 1 (some .float) ∈ BX1 := List.mem_of_getElem? (i := 17) rfl
theorem gc_X1_larger : Cond.code yX1_larger cX1_larger 2 (some .float) ∈ BX1 := List.mem_of_getElem? (i := 18) rfl
theorem gc_X1_reach : Cond.code yX1_reach cX1_reach 2 (some .float) ∈ BX1 := List.mem_of_getElem? (i := 19) rfl
theorem gc_X1_reachOfThree : Cond.code yX1_reachOfThree cX1_reachOfThree 4 (some .float) ∈ BX1 := List.mem_of_getElem? (i := 20) rfl
theorem gc_X1_clearSign : Cond.code yX1_clearSign cX1_clearSign 2 (some .int) ∈ BX1 := List.mem_of_getElem? (i := 21) rfl
theorem gc_X1_clearTurn : Cond.code yX1_clearTurn cX1_clearTurn 6 (some .int) ∈ BX1 := List.mem_of_getElem? (i := 22) rfl
theorem gc_X1_clearLift : Cond.code yX1_clearLift cX1_clearLift 16 (some .int) ∈ BX1 := List.mem_of_getElem? (i := 23) rfl
theorem gc_X2_init : Cond.code yX2_init cX2_init 1 none ∈ BX1 := List.mem_of_getElem? (i := 24) rfl
theorem gc_X2_add : Cond.code yX2_add cX2_add 3 (some .int) ∈ BX1 := List.mem_of_getElem? (i := 25) rfl
theorem gc_X2_has : Cond.code yX2_has cX2_has 2 (some .boolean) ∈ BX1 := List.mem_of_getElem? (i := 26) rfl
theorem gc_X2_hasAll : Cond.code yX2_hasAll cX2_hasAll 5 (some .boolean) ∈ BX1 := List.mem_of_getElem? (i := 27) rfl
theorem gc_X2_same : Cond.code yX2_same cX2_same 3 (some .boolean) ∈ BX1 := List.mem_of_getElem? (i := 28) rfl
theorem gc_X2_anySame : Cond.code yX2_anySame cX2_anySame 5 (some .boolean) ∈ BX1 := List.mem_of_getElem? (i := 29) rfl
theorem gc_X4_signOf : Cond.code yX4_signOf cX4_signOf 2 (some .int) ∈ BX1 := List.mem_of_getElem? (i := 30) rfl
theorem gc_X2_turn : Cond.code yX2_turn cX2_turn 8 (some .int) ∈ BX1 := List.mem_of_getElem? (i := 31) rfl
theorem gc_X2_lift : Cond.code yX2_lift cX2_lift 23 (some .int) ∈ BX1 := List.mem_of_getElem? (i := 32) rfl
theorem gc_X2_dot : Cond.code yX2_dot cX2_dot 4 (some .long) ∈ BX1 := List.mem_of_getElem? (i := 33) rfl
theorem gc_X2_distance : Cond.code yX2_distance cX2_distance 3 (some .long) ∈ BX1 := List.mem_of_getElem? (i := 34) rfl
theorem gc_X2_oneDirection : Cond.code yX2_oneDirection cX2_oneDirection 4 (some .boolean) ∈ BX1 := List.mem_of_getElem? (i := 35) rfl
theorem gc_X2_onWay : Cond.code yX2_onWay cX2_onWay 4 (some .boolean) ∈ BX1 := List.mem_of_getElem? (i := 36) rfl
theorem gc_X2_strictlyInAngle : Cond.code yX2_strictlyInAngle cX2_strictlyInAngle 5 (some .boolean) ∈ BX1 := List.mem_of_getElem? (i := 37) rfl
theorem gc_X2_allInLine : Cond.code yX2_allInLine cX2_allInLine 5 (some .boolean) ∈ BX1 := List.mem_of_getElem? (i := 38) rfl
theorem gc_X2_compareAcross : Cond.code yX2_compareAcross cX2_compareAcross 4 (some .int) ∈ BX1 := List.mem_of_getElem? (i := 39) rfl
theorem gc_X2_earlier : Cond.code yX2_earlier cX2_earlier 3 (some .int) ∈ BX1 := List.mem_of_getElem? (i := 40) rfl
theorem gc_X2_later : Cond.code yX2_later cX2_later 3 (some .int) ∈ BX1 := List.mem_of_getElem? (i := 41) rfl
theorem gc_X2_overlap : Cond.code yX2_overlap cX2_overlap 8 (some .int) ∈ BX1 := List.mem_of_getElem? (i := 42) rfl
theorem gc_X2_meeting : Cond.code yX2_meeting cX2_meeting 6 (some .int) ∈ BX1 := List.mem_of_getElem? (i := 43) rfl
theorem gc_X2_partRound : Cond.code yX2_partRound cX2_partRound 3 (some .int) ∈ BX1 := List.mem_of_getElem? (i := 44) rfl
theorem gc_X2_compareRound : Cond.code yX2_compareRound cX2_compareRound 7 (some .int) ∈ BX1 := List.mem_of_getElem? (i := 45) rfl
theorem gc_X3_init : Cond.code yX3_init cX3_init 2 none ∈ BX1 := List.mem_of_getElem? (i := 46) rfl
theorem gc_X3_resize : Cond.code yX3_resize cX3_resize 4 (some .int) ∈ BX1 := List.mem_of_getElem? (i := 47) rfl
theorem gc_X3_hasPlace : Cond.code yX3_hasPlace cX3_hasPlace 2 (some .boolean) ∈ BX1 := List.mem_of_getElem? (i := 48) rfl
theorem gc_X3_put : Cond.code yX3_put cX3_put 4 (some .int) ∈ BX1 := List.mem_of_getElem? (i := 49) rfl
theorem gc_X3_refusal : Cond.code yX3_refusal cX3_refusal 3 (some .int) ∈ BX1 := List.mem_of_getElem? (i := 50) rfl
theorem gc_X3_following : Cond.code yX3_following cX3_following 2 (some .int) ∈ BX1 := List.mem_of_getElem? (i := 51) rfl
theorem gc_X3_commonSide : Cond.code yX3_commonSide cX3_commonSide 7 (some .int) ∈ BX1 := List.mem_of_getElem? (i := 52) rfl
theorem gc_X3_onAnyEdge : Cond.code yX3_onAnyEdge cX3_onAnyEdge 4 (some .boolean) ∈ BX1 := List.mem_of_getElem? (i := 53) rfl
theorem gc_X3_climbsPast : Cond.code yX3_climbsPast cX3_climbsPast 5 (some .boolean) ∈ BX1 := List.mem_of_getElem? (i := 54) rfl
theorem gc_X3_rises : Cond.code yX3_rises cX3_rises 5 (some .int) ∈ BX1 := List.mem_of_getElem? (i := 55) rfl
theorem gc_X3_falls : Cond.code yX3_falls cX3_falls 5 (some .int) ∈ BX1 := List.mem_of_getElem? (i := 56) rfl
theorem gc_X3_nearestBits : Cond.code yX3_nearestBits cX3_nearestBits 9 (some .int) ∈ BX1 := List.mem_of_getElem? (i := 57) rfl
theorem gc_X3_compare : Cond.code yX3_compare cX3_compare 4 (some .int) ∈ BX1 := List.mem_of_getElem? (i := 58) rfl
theorem gc_X3_howManyBefore : Cond.code yX3_howManyBefore cX3_howManyBefore 7 (some .int) ∈ BX1 := List.mem_of_getElem? (i := 59) rfl
theorem gc_X3_placeOfRank : Cond.code yX3_placeOfRank cX3_placeOfRank 5 (some .int) ∈ BX1 := List.mem_of_getElem? (i := 60) rfl
theorem gc_X3_doubleArea : Cond.code yX3_doubleArea cX3_doubleArea 7 (some .long) ∈ BX1 := List.mem_of_getElem? (i := 61) rfl
theorem gc_X4_init : Cond.code yX4_init cX4_init 1 none ∈ BX1 := List.mem_of_getElem? (i := 62) rfl
theorem gc_X4_isCoordinate : Cond.code yX4_isCoordinate cX4_isCoordinate 2 (some .boolean) ∈ BX1 := List.mem_of_getElem? (i := 63) rfl
theorem gc_X4_isDown : Cond.code yX4_isDown cX4_isDown 2 (some .boolean) ∈ BX1 := List.mem_of_getElem? (i := 64) rfl
theorem gc_X4_point : Cond.code yX4_point cX4_point 8 (some .int) ∈ BX1 := List.mem_of_getElem? (i := 65) rfl
theorem gc_X4_size : Cond.code yX4_size cX4_size 2 (some .int) ∈ BX1 := List.mem_of_getElem? (i := 66) rfl
theorem gc_X4_of : Cond.code yX4_of cX4_of 3 (some .int) ∈ BX1 := List.mem_of_getElem? (i := 67) rfl
theorem gc_X4_at : Cond.code yX4_at cX4_at 4 (some .int) ∈ BX1 := List.mem_of_getElem? (i := 68) rfl
theorem gc_X4_side : Cond.code yX4_side cX4_side 6 (some .int) ∈ BX1 := List.mem_of_getElem? (i := 69) rfl
theorem gc_X4_circle : Cond.code yX4_circle cX4_circle 8 (some .int) ∈ BX1 := List.mem_of_getElem? (i := 70) rfl
theorem gc_X4_filter : Cond.code yX4_filter cX4_filter 3 (some .int) ∈ BX1 := List.mem_of_getElem? (i := 71) rfl
theorem gc_X4_decided : Cond.code yX4_decided cX4_decided 2 (some .int) ∈ BX1 := List.mem_of_getElem? (i := 72) rfl
theorem gc_X4_between : Cond.code yX4_between cX4_between 4 (some .int) ∈ BX1 := List.mem_of_getElem? (i := 73) rfl
theorem gc_X4_inside : Cond.code yX4_inside cX4_inside 5 (some .int) ∈ BX1 := List.mem_of_getElem? (i := 74) rfl
theorem gc_X4_cross : Cond.code yX4_cross cX4_cross 5 (some .int) ∈ BX1 := List.mem_of_getElem? (i := 75) rfl
theorem gc_X4_separated : Cond.code yX4_separated cX4_separated 6 (some .int) ∈ BX1 := List.mem_of_getElem? (i := 76) rfl
theorem gc_X4_convex : Cond.code yX4_convex cX4_convex 3 (some .int) ∈ BX1 := List.mem_of_getElem? (i := 77) rfl
theorem gc_X4_refusalWithPoint : Cond.code yX4_refusalWithPoint cX4_refusalWithPoint 3 (some .int) ∈ BX1 := List.mem_of_getElem? (i := 78) rfl
theorem gc_X4_polygon : Cond.code yX4_polygon cX4_polygon 4 (some .int) ∈ BX1 := List.mem_of_getElem? (i := 79) rfl
theorem gc_X4_winding : Cond.code yX4_winding cX4_winding 3 (some .int) ∈ BX1 := List.mem_of_getElem? (i := 80) rfl
theorem gc_X4_nearest : Cond.code yX4_nearest cX4_nearest 4 (some .int) ∈ BX1 := List.mem_of_getElem? (i := 81) rfl
theorem gc_X4_isRank : Cond.code yX4_isRank cX4_isRank 2 (some .boolean) ∈ BX1 := List.mem_of_getElem? (i := 82) rfl
theorem gc_X4_around : Cond.code yX4_around cX4_around 5 (some .int) ∈ BX1 := List.mem_of_getElem? (i := 83) rfl
theorem gc_X4_order : Cond.code yX4_order cX4_order 4 (some .int) ∈ BX1 := List.mem_of_getElem? (i := 84) rfl
theorem gc_X4_area : Cond.code yX4_area cX4_area 4 (some .long) ∈ BX1 := List.mem_of_getElem? (i := 85) rfl
theorem gc_X4_line : Cond.code yX4_line cX4_line 3 (some .int) ∈ BX1 := List.mem_of_getElem? (i := 86) rfl
theorem gc_X4_lines : Cond.code yX4_lines cX4_lines 3 (some .int) ∈ BX1 := List.mem_of_getElem? (i := 87) rfl
theorem gc_X4_count : Cond.code yX4_count cX4_count 2 (some .int) ∈ BX1 := List.mem_of_getElem? (i := 88) rfl
theorem kf_X1_38 : Cond.constantFloat RX1 38 (914358272) ∈ BX := bx0 (by decide +kernel)
theorem kf_X1_50 : Cond.constantFloat RX1 50 (964689920) ∈ BX := bx0 (by decide +kernel)
theorem kf_X1_61 : Cond.constantFloat RX1 61 (1094713344) ∈ BX := bx0 (by decide +kernel)
theorem kl_X4_219 : Cond.constantLong RX4 219 (-800) ∈ BX := bx0 (by decide +kernel)
theorem kl_X4_221 : Cond.constantLong RX4 221 (800) ∈ BX := bx0 (by decide +kernel)
theorem kl_X4_223 : Cond.constantLong RX4 223 (12) ∈ BX := bx0 (by decide +kernel)
theorem fk_X0_15 : Cond.fieldLink RX0 15 "OrderJudge$Drawing" "bs" "[J" ∈ BX := bx0 (by decide +kernel)
theorem fk_X0_18 : Cond.fieldLink RX0 18 "OrderJudge$Drawing" "cs" "[J" ∈ BX := bx0 (by decide +kernel)
theorem fk_X0_21 : Cond.fieldLink RX0 21 "OrderJudge$Drawing" "different" "[I" ∈ BX := bx0 (by decide +kernel)
theorem fk_X0_25 : Cond.fieldLink RX0 25 "OrderJudge$Drawing" "many" "I" ∈ BX := bx0 (by decide +kernel)
theorem fk_X0_33 : Cond.fieldLink RX0 33 "OrderJudge$Drawing" "meets" "I" ∈ BX := bx0 (by decide +kernel)
theorem fk_X0_36 : Cond.fieldLink RX0 36 "OrderJudge$Drawing" "passings" "I" ∈ BX := bx0 (by decide +kernel)
theorem fk_X0_39 : Cond.fieldLink RX0 39 "OrderJudge$Drawing" "mostPassings" "I" ∈ BX := bx0 (by decide +kernel)
theorem fk_X0_42 : Cond.fieldLink RX0 42 "OrderJudge$Drawing" "differents" "I" ∈ BX := bx0 (by decide +kernel)
theorem fk_X0_9 : Cond.fieldLink RX0 9 "OrderJudge$Drawing" "as" "[J" ∈ BX := bx0 (by decide +kernel)
theorem fk_X1_13 : Cond.fieldLink RX1 13 "OrderJudge$Filter" "plane" "LOrderJudge$Plane;" ∈ BX := bx0 (by decide +kernel)
theorem fk_X1_17 : Cond.fieldLink RX1 17 "OrderJudge$Filter" "clears" "I" ∈ BX := bx0 (by decide +kernel)
theorem fk_X1_21 : Cond.fieldLink RX1 21 "OrderJudge$Filter" "unclears" "I" ∈ BX := bx0 (by decide +kernel)
theorem fk_X1_24 : Cond.fieldLink RX1 24 "OrderJudge$Filter" "zeros" "I" ∈ BX := bx0 (by decide +kernel)
theorem fk_X1_55 : Cond.fieldLink RX1 55 "OrderJudge$Plane" "xs" "[I" ∈ BX := bx0 (by decide +kernel)
theorem fk_X1_62 : Cond.fieldLink RX1 62 "OrderJudge$Plane" "ys" "[I" ∈ BX := bx0 (by decide +kernel)
theorem fk_X1_7 : Cond.fieldLink RX1 7 "OrderJudge$Filter" "on" "Z" ∈ BX := bx0 (by decide +kernel)
theorem fk_X2_15 : Cond.fieldLink RX2 15 "OrderJudge$Plane" "ys" "[I" ∈ BX := bx0 (by decide +kernel)
theorem fk_X2_18 : Cond.fieldLink RX2 18 "OrderJudge$Plane" "many" "I" ∈ BX := bx0 (by decide +kernel)
theorem fk_X2_9 : Cond.fieldLink RX2 9 "OrderJudge$Plane" "xs" "[I" ∈ BX := bx0 (by decide +kernel)
theorem fk_X3_15 : Cond.fieldLink RX3 15 "OrderJudge$Row" "plane" "LOrderJudge$Plane;" ∈ BX := bx0 (by decide +kernel)
theorem fk_X3_19 : Cond.fieldLink RX3 19 "OrderJudge$Row" "many" "I" ∈ BX := bx0 (by decide +kernel)
theorem fk_X3_40 : Cond.fieldLink RX3 40 "OrderJudge$Plane" "ys" "[I" ∈ BX := bx0 (by decide +kernel)
theorem fk_X3_59 : Cond.fieldLink RX3 59 "OrderJudge$Plane" "xs" "[I" ∈ BX := bx0 (by decide +kernel)
theorem fk_X3_9 : Cond.fieldLink RX3 9 "OrderJudge$Row" "held" "[I" ∈ BX := bx0 (by decide +kernel)
theorem fk_X4_10 : Cond.fieldLink RX4 10 "OrderJudge" "plane" "LOrderJudge$Plane;" ∈ BX := bx0 (by decide +kernel)
theorem fk_X4_125 : Cond.fieldLink RX4 125 "OrderJudge$Filter" "clears" "I" ∈ BX := bx0 (by decide +kernel)
theorem fk_X4_128 : Cond.fieldLink RX4 128 "OrderJudge$Filter" "unclears" "I" ∈ BX := bx0 (by decide +kernel)
theorem fk_X4_131 : Cond.fieldLink RX4 131 "OrderJudge$Filter" "zeros" "I" ∈ BX := bx0 (by decide +kernel)
theorem fk_X4_192 : Cond.fieldLink RX4 192 "OrderJudge$Drawing" "many" "I" ∈ BX := bx0 (by decide +kernel)
theorem fk_X4_199 : Cond.fieldLink RX4 199 "OrderJudge$Drawing" "differents" "I" ∈ BX := bx0 (by decide +kernel)
theorem fk_X4_202 : Cond.fieldLink RX4 202 "OrderJudge$Drawing" "meets" "I" ∈ BX := bx0 (by decide +kernel)
theorem fk_X4_209 : Cond.fieldLink RX4 209 "OrderJudge$Drawing" "passings" "I" ∈ BX := bx0 (by decide +kernel)
theorem fk_X4_21 : Cond.fieldLink RX4 21 "OrderJudge" "quick" "LOrderJudge$Filter;" ∈ BX := bx0 (by decide +kernel)
theorem fk_X4_215 : Cond.fieldLink RX4 215 "OrderJudge$Drawing" "mostPassings" "I" ∈ BX := bx0 (by decide +kernel)
theorem fk_X4_218 : Cond.fieldLink RX4 218 "OrderJudge$Row" "many" "I" ∈ BX := bx0 (by decide +kernel)
theorem fk_X4_28 : Cond.fieldLink RX4 28 "OrderJudge" "row" "LOrderJudge$Row;" ∈ BX := bx0 (by decide +kernel)
theorem fk_X4_35 : Cond.fieldLink RX4 35 "OrderJudge" "drawing" "LOrderJudge$Drawing;" ∈ BX := bx0 (by decide +kernel)
theorem fk_X4_46 : Cond.fieldLink RX4 46 "OrderJudge$Plane" "many" "I" ∈ BX := bx0 (by decide +kernel)
theorem fk_X4_80 : Cond.fieldLink RX4 80 "OrderJudge$Row" "held" "[I" ∈ BX := bx0 (by decide +kernel)
theorem fk_X4_89 : Cond.fieldLink RX4 89 "OrderJudge$Plane" "xs" "[I" ∈ BX := bx0 (by decide +kernel)
theorem fk_X4_92 : Cond.fieldLink RX4 92 "OrderJudge$Plane" "ys" "[I" ∈ BX := bx0 (by decide +kernel)
theorem fk_X4_99 : Cond.fieldLink RX4 99 "OrderJudge$Filter" "on" "Z" ∈ BX := bx0 (by decide +kernel)
theorem ini_X0 : Cond.initialized RX0 ∈ BX := bx0 (by decide +kernel)
theorem ini_X1 : Cond.initialized RX1 ∈ BX := bx0 (by decide +kernel)
theorem ini_X2 : Cond.initialized RX2 ∈ BX := bx0 (by decide +kernel)
theorem ini_X3 : Cond.initialized RX3 ∈ BX := bx0 (by decide +kernel)
theorem ini_X4 : Cond.initialized RX4 ∈ BX := bx0 (by decide +kernel)
theorem im_X0_add : Cond.instanceMethod yX0_add ∈ BX := bx0 (by decide +kernel)
theorem im_X0_cells : Cond.instanceMethod yX0_cells ∈ BX := bx0 (by decide +kernel)
theorem im_X0_closedCells : Cond.instanceMethod yX0_closedCells ∈ BX := bx0 (by decide +kernel)
theorem im_X0_gatherDifferent : Cond.instanceMethod yX0_gatherDifferent ∈ BX := bx0 (by decide +kernel)
theorem im_X0_init : Cond.instanceMethod yX0_init ∈ BX := bx0 (by decide +kernel)
theorem im_X0_isNew : Cond.instanceMethod yX0_isNew ∈ BX := bx0 (by decide +kernel)
theorem im_X0_momentX : Cond.instanceMethod yX0_momentX ∈ BX := bx0 (by decide +kernel)
theorem im_X0_momentY : Cond.instanceMethod yX0_momentY ∈ BX := bx0 (by decide +kernel)
theorem im_X0_survey : Cond.instanceMethod yX0_survey ∈ BX := bx0 (by decide +kernel)
theorem im_X0_surveyMeet : Cond.instanceMethod yX0_surveyMeet ∈ BX := bx0 (by decide +kernel)
theorem im_X0_weight : Cond.instanceMethod yX0_weight ∈ BX := bx0 (by decide +kernel)
theorem im_X1_clearLift : Cond.instanceMethod yX1_clearLift ∈ BX := bx0 (by decide +kernel)
theorem im_X1_clearTurn : Cond.instanceMethod yX1_clearTurn ∈ BX := bx0 (by decide +kernel)
theorem im_X1_init : Cond.instanceMethod yX1_init ∈ BX := bx0 (by decide +kernel)
theorem im_X1_reach : Cond.instanceMethod yX1_reach ∈ BX := bx0 (by decide +kernel)
theorem im_X1_reachOfThree : Cond.instanceMethod yX1_reachOfThree ∈ BX := bx0 (by decide +kernel)
theorem im_X1_tally : Cond.instanceMethod yX1_tally ∈ BX := bx0 (by decide +kernel)
theorem im_X1_x : Cond.instanceMethod yX1_x ∈ BX := bx0 (by decide +kernel)
theorem im_X1_y : Cond.instanceMethod yX1_y ∈ BX := bx0 (by decide +kernel)
theorem im_X2_add : Cond.instanceMethod yX2_add ∈ BX := bx0 (by decide +kernel)
theorem im_X2_allInLine : Cond.instanceMethod yX2_allInLine ∈ BX := bx0 (by decide +kernel)
theorem im_X2_anySame : Cond.instanceMethod yX2_anySame ∈ BX := bx0 (by decide +kernel)
theorem im_X2_compareAcross : Cond.instanceMethod yX2_compareAcross ∈ BX := bx0 (by decide +kernel)
theorem im_X2_compareRound : Cond.instanceMethod yX2_compareRound ∈ BX := bx0 (by decide +kernel)
theorem im_X2_distance : Cond.instanceMethod yX2_distance ∈ BX := bx0 (by decide +kernel)
theorem im_X2_dot : Cond.instanceMethod yX2_dot ∈ BX := bx0 (by decide +kernel)
theorem im_X2_earlier : Cond.instanceMethod yX2_earlier ∈ BX := bx0 (by decide +kernel)
theorem im_X2_has : Cond.instanceMethod yX2_has ∈ BX := bx0 (by decide +kernel)
theorem im_X2_hasAll : Cond.instanceMethod yX2_hasAll ∈ BX := bx0 (by decide +kernel)
theorem im_X2_init : Cond.instanceMethod yX2_init ∈ BX := bx0 (by decide +kernel)
theorem im_X2_later : Cond.instanceMethod yX2_later ∈ BX := bx0 (by decide +kernel)
theorem im_X2_lift : Cond.instanceMethod yX2_lift ∈ BX := bx0 (by decide +kernel)
theorem im_X2_meeting : Cond.instanceMethod yX2_meeting ∈ BX := bx0 (by decide +kernel)
theorem im_X2_onWay : Cond.instanceMethod yX2_onWay ∈ BX := bx0 (by decide +kernel)
theorem im_X2_oneDirection : Cond.instanceMethod yX2_oneDirection ∈ BX := bx0 (by decide +kernel)
theorem im_X2_overlap : Cond.instanceMethod yX2_overlap ∈ BX := bx0 (by decide +kernel)
theorem im_X2_partRound : Cond.instanceMethod yX2_partRound ∈ BX := bx0 (by decide +kernel)
theorem im_X2_same : Cond.instanceMethod yX2_same ∈ BX := bx0 (by decide +kernel)
theorem im_X2_strictlyInAngle : Cond.instanceMethod yX2_strictlyInAngle ∈ BX := bx0 (by decide +kernel)
theorem im_X2_turn : Cond.instanceMethod yX2_turn ∈ BX := bx0 (by decide +kernel)
theorem im_X3_climbsPast : Cond.instanceMethod yX3_climbsPast ∈ BX := bx0 (by decide +kernel)
theorem im_X3_commonSide : Cond.instanceMethod yX3_commonSide ∈ BX := bx0 (by decide +kernel)
theorem im_X3_compare : Cond.instanceMethod yX3_compare ∈ BX := bx0 (by decide +kernel)
theorem im_X3_doubleArea : Cond.instanceMethod yX3_doubleArea ∈ BX := bx0 (by decide +kernel)
theorem im_X3_falls : Cond.instanceMethod yX3_falls ∈ BX := bx0 (by decide +kernel)
theorem im_X3_hasPlace : Cond.instanceMethod yX3_hasPlace ∈ BX := bx0 (by decide +kernel)
theorem im_X3_howManyBefore : Cond.instanceMethod yX3_howManyBefore ∈ BX := bx0 (by decide +kernel)
theorem im_X3_init : Cond.instanceMethod yX3_init ∈ BX := bx0 (by decide +kernel)
theorem im_X3_nearestBits : Cond.instanceMethod yX3_nearestBits ∈ BX := bx0 (by decide +kernel)
theorem im_X3_onAnyEdge : Cond.instanceMethod yX3_onAnyEdge ∈ BX := bx0 (by decide +kernel)
theorem im_X3_placeOfRank : Cond.instanceMethod yX3_placeOfRank ∈ BX := bx0 (by decide +kernel)
theorem im_X3_put : Cond.instanceMethod yX3_put ∈ BX := bx0 (by decide +kernel)
theorem im_X3_refusal : Cond.instanceMethod yX3_refusal ∈ BX := bx0 (by decide +kernel)
theorem im_X3_resize : Cond.instanceMethod yX3_resize ∈ BX := bx0 (by decide +kernel)
theorem im_X3_rises : Cond.instanceMethod yX3_rises ∈ BX := bx0 (by decide +kernel)
theorem im_X4_refusalWithPoint : Cond.instanceMethod yX4_refusalWithPoint ∈ BX := bx0 (by decide +kernel)
theorem st_X1_clearSign : Cond.static yX1_clearSign ∈ BX := bx0 (by decide +kernel)
theorem st_X1_larger : Cond.static yX1_larger ∈ BX := bx0 (by decide +kernel)
theorem st_X1_unsigned : Cond.static yX1_unsigned ∈ BX := bx0 (by decide +kernel)
theorem st_X3_following : Cond.static yX3_following ∈ BX := bx0 (by decide +kernel)
theorem st_X4_isCoordinate : Cond.static yX4_isCoordinate ∈ BX := bx0 (by decide +kernel)
theorem st_X4_isDown : Cond.static yX4_isDown ∈ BX := bx0 (by decide +kernel)
theorem st_X4_isRank : Cond.static yX4_isRank ∈ BX := bx0 (by decide +kernel)
theorem st_X4_signOf : Cond.static yX4_signOf ∈ BX := bx0 (by decide +kernel)
