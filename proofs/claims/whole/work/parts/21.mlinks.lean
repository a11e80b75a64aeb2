theorem gl_X5_107 : GoodIn BY (wsV RX5 107 RX5 yX5_areEqual (Cond.code yX5_areEqual cX5_areEqual 3 (some .boolean) :: BY)) := gdyV (by decide +kernel) (by decide +kernel) (by decide +kernel) (by decide +kernel) (List.mem_of_getElem? (i := 6) rfl)
theorem gl_X5_111 : GoodIn BY (wsV RX5 111 RX5 yX5_decidesTurn (Cond.code yX5_decidesTurn cX5_decidesTurn 9 (some .boolean) :: BY)) := gdyV (by decide +kernel) (by decide +kernel) (by decide +kernel) (by decide +kernel) (List.mem_of_getElem? (i := 20) rfl)
theorem gl_X5_115 : GoodIn BY (wsV RX5 115 RX5 yX5_counted (Cond.code yX5_counted cX5_counted 3 (some .int) :: BY)) := gdyV (by decide +kernel) (by decide +kernel) (by decide +kernel) (by decide +kernel) (List.mem_of_getElem? (i := 22) rfl)
theorem gl_X5_119 : GoodIn BY (wsV RX5 119 RX5 yX5_decidesRing (Cond.code yX5_decidesRing cX5_decidesRing 17 (some .boolean) :: BY)) := gdyV (by decide +kernel) (by decide +kernel) (by decide +kernel) (by decide +kernel) (List.mem_of_getElem? (i := 21) rfl)
theorem gl_X5_123 : GoodIn BY (wsV RX5 123 RX5 yX5_ring (Cond.code yX5_ring cX5_ring 23 (some .int) :: BY)) := gdyV (by decide +kernel) (by decide +kernel) (by decide +kernel) (by decide +kernel) (List.mem_of_getElem? (i := 10) rfl)
theorem gl_X5_127 : GoodIn BY (wsV RX5 127 RX5 yX5_along (Cond.code yX5_along cX5_along 4 (some .long) :: BY)) := gdyV (by decide +kernel) (by decide +kernel) (by decide +kernel) (by decide +kernel) (List.mem_of_getElem? (i := 9) rfl)
theorem gl_X5_131 : GoodIn BY (wsV RX5 131 RX5 yX5_isOn (Cond.code yX5_isOn cX5_isOn 4 (some .boolean) :: BY)) := gdyV (by decide +kernel) (by decide +kernel) (by decide +kernel) (by decide +kernel) (List.mem_of_getElem? (i := 27) rfl)
theorem gl_X5_133 : GoodIn BY (wsV RX5 133 RX5 yX5_isOneWay (Cond.code yX5_isOneWay cX5_isOneWay 4 (some .boolean) :: BY)) := gdyV (by decide +kernel) (by decide +kernel) (by decide +kernel) (by decide +kernel) (List.mem_of_getElem? (i := 29) rfl)
theorem gl_X5_136 : GoodIn BY (wsV RX5 136 RX5 yX5_common (Cond.code yX5_common cX5_common 10 (some .int) :: BY)) := gdyV (by decide +kernel) (by decide +kernel) (by decide +kernel) (by decide +kernel) (List.mem_of_getElem? (i := 31) rfl)
theorem gl_X5_139 : GoodIn BY (wsV RX5 139 RX5 yX5_isMany (Cond.code yX5_isMany cX5_isMany 3 (some .boolean) :: BY)) := gdyV (by decide +kernel) (by decide +kernel) (by decide +kernel) (by decide +kernel) (List.mem_of_getElem? (i := 34) rfl)
theorem gl_X5_142 : GoodIn BY (wsV RX5 142 RX5 yX5_isWhole (Cond.code yX5_isWhole cX5_isWhole 4 (some .boolean) :: BY)) := gdyV (by decide +kernel) (by decide +kernel) (by decide +kernel) (by decide +kernel) (List.mem_of_getElem? (i := 35) rfl)
theorem gl_X5_145 : GoodIn BY (wsV RX5 145 RX5 yX5_next (Cond.code yX5_next cX5_next 3 (some .int) :: BY)) := gdyV (by decide +kernel) (by decide +kernel) (by decide +kernel) (by decide +kernel) (List.mem_of_getElem? (i := 36) rfl)
theorem gl_X5_149 : GoodIn BY (wsV RX5 149 RX5 yX5_isOnEdge (Cond.code yX5_isOnEdge cX5_isOnEdge 5 (some .boolean) :: BY)) := gdyV (by decide +kernel) (by decide +kernel) (by decide +kernel) (by decide +kernel) (List.mem_of_getElem? (i := 38) rfl)
theorem gl_X5_152 : GoodIn BY (wsV RX5 152 RX5 yX5_rises (Cond.code yX5_rises cX5_rises 8 (some .int) :: BY)) := gdyV (by decide +kernel) (by decide +kernel) (by decide +kernel) (by decide +kernel) (List.mem_of_getElem? (i := 39) rfl)
theorem gl_X5_155 : GoodIn BY (wsV RX5 155 RX5 yX5_far (Cond.code yX5_far cX5_far 3 (some .long) :: BY)) := gdyV (by decide +kernel) (by decide +kernel) (by decide +kernel) (by decide +kernel) (List.mem_of_getElem? (i := 42) rfl)
theorem gl_X5_159 : GoodIn BY (wsV RX5 159 RX5 yX5_half (Cond.code yX5_half cX5_half 3 (some .int) :: BY)) := gdyV (by decide +kernel) (by decide +kernel) (by decide +kernel) (by decide +kernel) (List.mem_of_getElem? (i := 44) rfl)
theorem gl_X5_162 : GoodIn BY (wsV RX5 162 RX5 yX5_isAhead (Cond.code yX5_isAhead cX5_isAhead 9 (some .boolean) :: BY)) := gdyV (by decide +kernel) (by decide +kernel) (by decide +kernel) (by decide +kernel) (List.mem_of_getElem? (i := 45) rfl)
theorem gl_X5_165 : GoodIn BY (wsV RX5 165 RX5 yX5_isLess (Cond.code yX5_isLess cX5_isLess 5 (some .boolean) :: BY)) := gdyV (by decide +kernel) (by decide +kernel) (by decide +kernel) (by decide +kernel) (List.mem_of_getElem? (i := 47) rfl)
theorem gl_X5_171 : GoodIn BY (wsV RX5 171 RX5 yX5_both (Cond.code yX5_both cX5_both 3 (some .long) :: BY)) := gdyV (by decide +kernel) (by decide +kernel) (by decide +kernel) (by decide +kernel) (List.mem_of_getElem? (i := 51) rfl)
theorem gl_X5_174 : GoodIn BY (wsV RX5 174 RX5 yX5_isOne (Cond.code yX5_isOne cX5_isOne 3 (some .boolean) :: BY)) := gdyV (by decide +kernel) (by decide +kernel) (by decide +kernel) (by decide +kernel) (List.mem_of_getElem? (i := 52) rfl)
theorem gl_X5_177 : GoodIn BY (wsV RX5 177 RX5 yX5_isNew (Cond.code yX5_isNew cX5_isNew 4 (some .boolean) :: BY)) := gdyV (by decide +kernel) (by decide +kernel) (by decide +kernel) (by decide +kernel) (List.mem_of_getElem? (i := 53) rfl)
theorem gl_X5_180 : GoodIn BY (wsV RX5 180 RX5 yX5_isThrough (Cond.code yX5_isThrough cX5_isThrough 8 (some .boolean) :: BY)) := gdyV (by decide +kernel) (by decide +kernel) (by decide +kernel) (by decide +kernel) (List.mem_of_getElem? (i := 54) rfl)
theorem gl_X5_54 : GoodIn BY (va_wsS RX5 54 yX5_signOf (Cond.code yX5_signOf cX5_signOf 2 (some .int) :: BY)) := gdyS (by decide +kernel) (by decide +kernel) (by decide +kernel) (List.mem_of_getElem? (i := 7) rfl)
theorem gl_X5_58 : GoodIn BY (wsV RX5 58 RX5 yX5_turn (Cond.code yX5_turn cX5_turn 4 (some .int) :: BY)) := gdyV (by decide +kernel) (by decide +kernel) (by decide +kernel) (by decide +kernel) (List.mem_of_getElem? (i := 8) rfl)
theorem gl_X5_62 : GoodIn BY (wsV RX5 62 RX5 yX5_fail (Cond.code yX5_fail cX5_fail 2 (some .int) :: BY)) := gdyV (by decide +kernel) (by decide +kernel) (by decide +kernel) (by decide +kernel) (List.mem_of_getElem? (i := 1) rfl)
theorem gl_X5_69 : GoodIn BY (wsV RX5 69 RX5 yX5_isPoint (Cond.code yX5_isPoint cX5_isPoint 2 (some .boolean) :: BY)) := gdyV (by decide +kernel) (by decide +kernel) (by decide +kernel) (by decide +kernel) (List.mem_of_getElem? (i := 5) rfl)
theorem gl_X5_73 : GoodIn BY (wsV RX5 73 RX5 yX5_isPlace (Cond.code yX5_isPlace cX5_isPlace 2 (some .boolean) :: BY)) := gdyV (by decide +kernel) (by decide +kernel) (by decide +kernel) (by decide +kernel) (List.mem_of_getElem? (i := 12) rfl)
theorem gl_X5_77 : GoodIn BY (wsV RX5 77 RX5 yX5_fx (Cond.code yX5_fx cX5_fx 2 (some .float) :: BY)) := gdyV (by decide +kernel) (by decide +kernel) (by decide +kernel) (by decide +kernel) (List.mem_of_getElem? (i := 17) rfl)
theorem gl_X5_81 : GoodIn BY (va_wsS RX5 81 yX5_size_ (Cond.code yX5_size_ cX5_size_ 1 (some .float) :: BY)) := gdyS (by decide +kernel) (by decide +kernel) (by decide +kernel) (List.mem_of_getElem? (i := 15) rfl)
theorem gl_X5_85 : GoodIn BY (wsV RX5 85 RX5 yX5_fy (Cond.code yX5_fy cX5_fy 2 (some .float) :: BY)) := gdyV (by decide +kernel) (by decide +kernel) (by decide +kernel) (by decide +kernel) (List.mem_of_getElem? (i := 18) rfl)
theorem gl_X5_88 : GoodIn BY (va_wsS RX5 88 yX5_greater (Cond.code yX5_greater cX5_greater 2 (some .float) :: BY)) := gdyS (by decide +kernel) (by decide +kernel) (by decide +kernel) (List.mem_of_getElem? (i := 16) rfl)
theorem gl_X5_92 : GoodIn BY (wsV RX5 92 RX5 yX5_most (Cond.code yX5_most cX5_most 4 (some .float) :: BY)) := gdyV (by decide +kernel) (by decide +kernel) (by decide +kernel) (by decide +kernel) (List.mem_of_getElem? (i := 19) rfl)
theorem gc_X5_thrown : Cond.code yX5_thrown cX5_thrown 1 (some .int) ∈ BY1 := List.mem_of_getElem? (i := 0) rfl
theorem gc_X5_fail : Cond.code yX5_fail cX5_fail 2 (some .int) ∈ BY1 := List.mem_of_getElem? (i := 1) rfl
theorem gc_X5_init : Cond.code yX5_init cX5_init 2 none ∈ BY1 := List.mem_of_getElem? (i := 2) rfl
theorem gc_X5_point : Cond.code yX5_point cX5_point 8 (some .int) ∈ BY1 := List.mem_of_getElem? (i := 4) rfl
theorem gc_X5_isPoint : Cond.code yX5_isPoint cX5_isPoint 2 (some .boolean) ∈ BY1 := List.mem_of_getElem? (i := 5) rfl
theorem gc_X5_areEqual : Cond.code yX5_areEqual cX5_areEqual 3 (some .boolean) ∈ BY1 := List.mem_of_getElem? (i := 6) rfl
theorem gc_X5_signOf : Cond.code yX5_signOf cX5_signOf 2 (some .int) ∈ BY1 := List.mem_of_getElem? (i := 7) rfl
theorem gc_X5_turn : Cond.code yX5_turn cX5_turn 4 (some .int) ∈ BY1 := List.mem_of_getElem? (i := 8) rfl
theorem gc_X5_along : Cond.code yX5_along cX5_along 4 (some .long) ∈ BY1 := List.mem_of_getElem? (i := 9) rfl
theorem gc_X5_ring : Cond.code yX5_ring cX5_ring 23 (some .int) ∈ BY1 := List.mem_of_getElem? (i := 10) rfl
theorem gc_X5_size : Cond.code yX5_size cX5_size 4 (some .int) ∈ BY1 := List.mem_of_getElem? (i := 11) rfl
theorem gc_X5_isPlace : Cond.code yX5_isPlace cX5_isPlace 2 (some .boolean) ∈ BY1 := List.mem_of_getElem? (i := 12) rfl
theorem gc_X5_of : Cond.code yX5_of cX5_of 4 (some .int) ∈ BY1 := List.mem_of_getElem? (i := 13) rfl
theorem gc_X5_at : Cond.code yX5_at cX5_at 3 (some .int) ∈ BY1 := List.mem_of_getElem? (i := 14) rfl
theorem gc_X5_size_ : Cond.code yX5_size_ cX5_size_ 1 (some .float) ∈ BY1 := List.mem_of_getElem? (i := 15) rfl
theorem gc_X5_greater : Cond.code yX5_greater cX5_greater 2 (some .float) ∈ BY1 := List.mem_of_getElem? (i := 16) rfl
theorem gc_X5_fx : Cond.code yX5_fx cX5_fx 2 (some .float) ∈ BY1 := List.mem_of_getElem? (i := 17) rfl
theorem gc_X5_fy : Cond.code yX5_fy cX5_fy 2 (some .float) ∈ BY1 := List.mem_of_getElem? (i := 18) rfl
theorem gc_X5_most : Cond.code yX5_most cX5_most 4 (some .float) ∈ BY1 := List.mem_of_getElem? (i := 19) rfl
theorem gc_X5_decidesTurn : Cond.code yX5_decidesTurn cX5_decidesTurn 9 (some .boolean) ∈ BY1 := List.mem_of_getElem? (i := 20) rfl
theorem gc_X5_decidesRing : Cond.code yX5_decidesRing cX5_decidesRing 17 (some .boolean) ∈ BY1 := List.mem_of_getElem? (i := 21) rfl
theorem gc_X5_counted : Cond.code yX5_counted cX5_counted 3 (some .int) ∈ BY1 := List.mem_of_getElem? (i := 22) rfl
theorem gc_X5_side : Cond.code yX5_side cX5_side 4 (some .int) ∈ BY1 := List.mem_of_getElem? (i := 23) rfl
theorem gc_X5_circle : Cond.code yX5_circle cX5_circle 5 (some .int) ∈ BY1 := List.mem_of_getElem? (i := 24) rfl
theorem gc_X5_filter : Cond.code yX5_filter cX5_filter 3 (some .int) ∈ BY1 := List.mem_of_getElem? (i := 25) rfl
theorem gc_X5_decided : Cond.code yX5_decided cX5_decided 2 (some .int) ∈ BY1 := List.mem_of_getElem? (i := 26) rfl
theorem gc_X5_isOn : Cond.code yX5_isOn cX5_isOn 4 (some .boolean) ∈ BY1 := List.mem_of_getElem? (i := 27) rfl
theorem gc_X5_between : Cond.code yX5_between cX5_between 4 (some .int) ∈ BY1 := List.mem_of_getElem? (i := 28) rfl
theorem gc_X5_isOneWay : Cond.code yX5_isOneWay cX5_isOneWay 4 (some .boolean) ∈ BY1 := List.mem_of_getElem? (i := 29) rfl
theorem gc_X5_inside : Cond.code yX5_inside cX5_inside 6 (some .int) ∈ BY1 := List.mem_of_getElem? (i := 30) rfl
theorem gc_X5_common : Cond.code yX5_common cX5_common 10 (some .int) ∈ BY1 := List.mem_of_getElem? (i := 31) rfl
theorem gc_X5_cross : Cond.code yX5_cross cX5_cross 11 (some .int) ∈ BY1 := List.mem_of_getElem? (i := 32) rfl
theorem gc_X5_separated : Cond.code yX5_separated cX5_separated 7 (some .int) ∈ BY1 := List.mem_of_getElem? (i := 33) rfl
theorem gc_X5_isMany : Cond.code yX5_isMany cX5_isMany 3 (some .boolean) ∈ BY1 := List.mem_of_getElem? (i := 34) rfl
theorem gc_X5_isWhole : Cond.code yX5_isWhole cX5_isWhole 4 (some .boolean) ∈ BY1 := List.mem_of_getElem? (i := 35) rfl
theorem gc_X5_next : Cond.code yX5_next cX5_next 3 (some .int) ∈ BY1 := List.mem_of_getElem? (i := 36) rfl
theorem gc_X5_convex : Cond.code yX5_convex cX5_convex 8 (some .int) ∈ BY1 := List.mem_of_getElem? (i := 37) rfl
theorem gc_X5_isOnEdge : Cond.code yX5_isOnEdge cX5_isOnEdge 5 (some .boolean) ∈ BY1 := List.mem_of_getElem? (i := 38) rfl
theorem gc_X5_rises : Cond.code yX5_rises cX5_rises 8 (some .int) ∈ BY1 := List.mem_of_getElem? (i := 39) rfl
theorem gc_X5_polygon : Cond.code yX5_polygon cX5_polygon 5 (some .int) ∈ BY1 := List.mem_of_getElem? (i := 40) rfl
theorem gc_X5_winding : Cond.code yX5_winding cX5_winding 5 (some .int) ∈ BY1 := List.mem_of_getElem? (i := 41) rfl
theorem gc_X5_far : Cond.code yX5_far cX5_far 3 (some .long) ∈ BY1 := List.mem_of_getElem? (i := 42) rfl
theorem gc_X5_nearest : Cond.code yX5_nearest cX5_nearest 9 (some .int) ∈ BY1 := List.mem_of_getElem? (i := 43) rfl
theorem gc_X5_half : Cond.code yX5_half cX5_half 3 (some .int) ∈ BY1 := List.mem_of_getElem? (i := 44) rfl
theorem gc_X5_isAhead : Cond.code yX5_isAhead cX5_isAhead 9 (some .boolean) ∈ BY1 := List.mem_of_getElem? (i := 45) rfl
theorem gc_X5_around : Cond.code yX5_around cX5_around 8 (some .int) ∈ BY1 := List.mem_of_getElem? (i := 46) rfl
theorem gc_X5_isLess : Cond.code yX5_isLess cX5_isLess 5 (some .boolean) ∈ BY1 := List.mem_of_getElem? (i := 47) rfl
theorem gc_X5_order : Cond.code yX5_order cX5_order 7 (some .int) ∈ BY1 := List.mem_of_getElem? (i := 48) rfl
theorem gc_X5_area : Cond.code yX5_area cX5_area 9 (some .long) ∈ BY1 := List.mem_of_getElem? (i := 49) rfl
theorem gc_X5_line : Cond.code yX5_line cX5_line 3 (some .int) ∈ BY1 := List.mem_of_getElem? (i := 50) rfl
theorem gc_X5_both : Cond.code yX5_both cX5_both 3 (some .long) ∈ BY1 := List.mem_of_getElem? (i := 51) rfl
theorem gc_X5_isOne : Cond.code yX5_isOne cX5_isOne 3 (some .boolean) ∈ BY1 := List.mem_of_getElem? (i := 52) rfl
theorem gc_X5_isNew : Cond.code yX5_isNew cX5_isNew 4 (some .boolean) ∈ BY1 := List.mem_of_getElem? (i := 53) rfl
theorem gc_X5_isThrough : Cond.code yX5_isThrough cX5_isThrough 8 (some .boolean) ∈ BY1 := List.mem_of_getElem? (i := 54) rfl
theorem gc_X5_lines : Cond.code yX5_lines cX5_lines 14 (some .int) ∈ BY1 := List.mem_of_getElem? (i := 55) rfl
theorem gc_X5_count : Cond.code yX5_count cX5_count 2 (some .int) ∈ BY1 := List.mem_of_getElem? (i := 56) rfl
theorem kf_X5_76 : Cond.constantFloat RX5 76 (1094713344) ∈ BY := by0 (by decide +kernel)
theorem kf_X5_96 : Cond.constantFloat RX5 96 (914358272) ∈ BY := by0 (by decide +kernel)
theorem kf_X5_97 : Cond.constantFloat RX5 97 (964689920) ∈ BY := by0 (by decide +kernel)
theorem kl_X5_37 : Cond.constantLong RX5 37 (2) ∈ BY := by0 (by decide +kernel)
theorem kl_X5_39 : Cond.constantLong RX5 39 (3) ∈ BY := by0 (by decide +kernel)
theorem kl_X5_41 : Cond.constantLong RX5 41 (4) ∈ BY := by0 (by decide +kernel)
theorem kl_X5_43 : Cond.constantLong RX5 43 (6) ∈ BY := by0 (by decide +kernel)
theorem kl_X5_45 : Cond.constantLong RX5 45 (12) ∈ BY := by0 (by decide +kernel)
theorem kl_X5_47 : Cond.constantLong RX5 47 (-800) ∈ BY := by0 (by decide +kernel)
theorem kl_X5_49 : Cond.constantLong RX5 49 (800) ∈ BY := by0 (by decide +kernel)
theorem fk_X5_1 : Cond.fieldLink RX5 1 "OrderJudgeModel" "thrown" "I" ∈ BY := by0 (by decide +kernel)
theorem fk_X5_101 : Cond.fieldLink RX5 101 "OrderJudgeModel" "unclear" "I" ∈ BY := by0 (by decide +kernel)
theorem fk_X5_104 : Cond.fieldLink RX5 104 "OrderJudgeModel" "nothing" "I" ∈ BY := by0 (by decide +kernel)
theorem fk_X5_13 : Cond.fieldLink RX5 13 "OrderJudgeModel" "px" "[I" ∈ BY := by0 (by decide +kernel)
theorem fk_X5_168 : Cond.fieldLink RX5 168 "OrderJudgeModel" "lines" "I" ∈ BY := by0 (by decide +kernel)
theorem fk_X5_17 : Cond.fieldLink RX5 17 "OrderJudgeModel" "py" "[I" ∈ BY := by0 (by decide +kernel)
theorem fk_X5_20 : Cond.fieldLink RX5 20 "OrderJudgeModel" "row" "[I" ∈ BY := by0 (by decide +kernel)
theorem fk_X5_23 : Cond.fieldLink RX5 23 "OrderJudgeModel" "isOn" "Z" ∈ BY := by0 (by decide +kernel)
theorem fk_X5_27 : Cond.fieldLink RX5 27 "OrderJudgeModel" "la" "[J" ∈ BY := by0 (by decide +kernel)
theorem fk_X5_31 : Cond.fieldLink RX5 31 "OrderJudgeModel" "lb" "[J" ∈ BY := by0 (by decide +kernel)
theorem fk_X5_34 : Cond.fieldLink RX5 34 "OrderJudgeModel" "lc" "[J" ∈ BY := by0 (by decide +kernel)
theorem fk_X5_51 : Cond.fieldLink RX5 51 "OrderJudgeModel" "points" "I" ∈ BY := by0 (by decide +kernel)
theorem fk_X5_66 : Cond.fieldLink RX5 66 "OrderJudgeModel" "places" "I" ∈ BY := by0 (by decide +kernel)
theorem fk_X5_98 : Cond.fieldLink RX5 98 "OrderJudgeModel" "clear" "I" ∈ BY := by0 (by decide +kernel)
theorem ini_X5 : Cond.initialized RX5 ∈ BY := by0 (by decide +kernel)
theorem im_X5_along : Cond.instanceMethod yX5_along ∈ BY := by0 (by decide +kernel)
theorem im_X5_areEqual : Cond.instanceMethod yX5_areEqual ∈ BY := by0 (by decide +kernel)
theorem im_X5_both : Cond.instanceMethod yX5_both ∈ BY := by0 (by decide +kernel)
theorem im_X5_common : Cond.instanceMethod yX5_common ∈ BY := by0 (by decide +kernel)
theorem im_X5_counted : Cond.instanceMethod yX5_counted ∈ BY := by0 (by decide +kernel)
theorem im_X5_decidesRing : Cond.instanceMethod yX5_decidesRing ∈ BY := by0 (by decide +kernel)
theorem im_X5_decidesTurn : Cond.instanceMethod yX5_decidesTurn ∈ BY := by0 (by decide +kernel)
theorem im_X5_fail : Cond.instanceMethod yX5_fail ∈ BY := by0 (by decide +kernel)
theorem im_X5_far : Cond.instanceMethod yX5_far ∈ BY := by0 (by decide +kernel)
theorem im_X5_fx : Cond.instanceMethod yX5_fx ∈ BY := by0 (by decide +kernel)
theorem im_X5_fy : Cond.instanceMethod yX5_fy ∈ BY := by0 (by decide +kernel)
theorem im_X5_half : Cond.instanceMethod yX5_half ∈ BY := by0 (by decide +kernel)
theorem im_X5_isAhead : Cond.instanceMethod yX5_isAhead ∈ BY := by0 (by decide +kernel)
theorem im_X5_isLess : Cond.instanceMethod yX5_isLess ∈ BY := by0 (by decide +kernel)
theorem im_X5_isMany : Cond.instanceMethod yX5_isMany ∈ BY := by0 (by decide +kernel)
theorem im_X5_isNew : Cond.instanceMethod yX5_isNew ∈ BY := by0 (by decide +kernel)
theorem im_X5_isOn : Cond.instanceMethod yX5_isOn ∈ BY := by0 (by decide +kernel)
theorem im_X5_isOnEdge : Cond.instanceMethod yX5_isOnEdge ∈ BY := by0 (by decide +kernel)
theorem im_X5_isOne : Cond.instanceMethod yX5_isOne ∈ BY := by0 (by decide +kernel)
theorem im_X5_isOneWay : Cond.instanceMethod yX5_isOneWay ∈ BY := by0 (by decide +kernel)
theorem im_X5_isPlace : Cond.instanceMethod yX5_isPlace ∈ BY := by0 (by decide +kernel)
theorem im_X5_isPoint : Cond.instanceMethod yX5_isPoint ∈ BY := by0 (by decide +kernel)
theorem im_X5_isThrough : Cond.instanceMethod yX5_isThrough ∈ BY := by0 (by decide +kernel)
theorem im_X5_isWhole : Cond.instanceMethod yX5_isWhole ∈ BY := by0 (by decide +kernel)
theorem im_X5_most : Cond.instanceMethod yX5_most ∈ BY := by0 (by decide +kernel)
theorem im_X5_next : Cond.instanceMethod yX5_next ∈ BY := by0 (by decide +kernel)
theorem im_X5_ring : Cond.instanceMethod yX5_ring ∈ BY := by0 (by decide +kernel)
theorem im_X5_rises : Cond.instanceMethod yX5_rises ∈ BY := by0 (by decide +kernel)
theorem im_X5_turn : Cond.instanceMethod yX5_turn ∈ BY := by0 (by decide +kernel)
theorem st_X5_greater : Cond.static yX5_greater ∈ BY := by0 (by decide +kernel)
theorem st_X5_signOf : Cond.static yX5_signOf ∈ BY := by0 (by decide +kernel)
theorem st_X5_size_ : Cond.static yX5_size_ ∈ BY := by0 (by decide +kernel)
